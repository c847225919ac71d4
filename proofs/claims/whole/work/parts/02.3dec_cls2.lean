theorem dX7_choiceFor_13 : decode cX7_choiceFor 13 = .ok (.ireturn, 1) := by decide +kernel
theorem dX7_choiceAt_0 : decode cX7_choiceAt 0 = .ok (.iconst 0, 1) := by decide +kernel
theorem dX7_choiceAt_1 : decode cX7_choiceAt 1 = .ok (.istore_n 2, 1) := by decide +kernel
theorem dX7_choiceAt_2 : decode cX7_choiceAt 2 = .ok (.iconst 0, 1) := by decide +kernel
theorem dX7_choiceAt_3 : decode cX7_choiceAt 3 = .ok (.istore_n 3, 1) := by decide +kernel
theorem dX7_choiceAt_4 : decode cX7_choiceAt 4 = .ok (.iload_n 3, 1) := by decide +kernel
theorem dX7_choiceAt_5 : decode cX7_choiceAt 5 = .ok (.iconst 4, 1) := by decide +kernel
theorem dX7_choiceAt_6 : decode cX7_choiceAt 6 = .ok (.if_icmp .ge 24, 3) := by decide +kernel
theorem dX7_choiceAt_9 : decode cX7_choiceAt 9 = .ok (.iload_n 2, 1) := by decide +kernel
theorem dX7_choiceAt_10 : decode cX7_choiceAt 10 = .ok (.aload_n 0, 1) := by decide +kernel
theorem dX7_choiceAt_11 : decode cX7_choiceAt 11 = .ok (.iload_n 3, 1) := by decide +kernel
theorem dX7_choiceAt_12 : decode cX7_choiceAt 12 = .ok (.invokevirtual 37, 3) := by decide +kernel
theorem dX7_choiceAt_15 : decode cX7_choiceAt 15 = .ok (.iadd, 1) := by decide +kernel
theorem dX7_choiceAt_16 : decode cX7_choiceAt 16 = .ok (.istore_n 2, 1) := by decide +kernel
theorem dX7_choiceAt_17 : decode cX7_choiceAt 17 = .ok (.iload_n 1, 1) := by decide +kernel
theorem dX7_choiceAt_18 : decode cX7_choiceAt 18 = .ok (.iload_n 2, 1) := by decide +kernel
theorem dX7_choiceAt_19 : decode cX7_choiceAt 19 = .ok (.if_icmp .ge 5, 3) := by decide +kernel
theorem dX7_choiceAt_22 : decode cX7_choiceAt 22 = .ok (.iload_n 3, 1) := by decide +kernel
theorem dX7_choiceAt_23 : decode cX7_choiceAt 23 = .ok (.ireturn, 1) := by decide +kernel
theorem dX7_choiceAt_24 : decode cX7_choiceAt 24 = .ok (.iinc 3 1, 3) := by decide +kernel
theorem dX7_choiceAt_27 : decode cX7_choiceAt 27 = .ok (.goto (-23), 3) := by decide +kernel
theorem dX7_choiceAt_30 : decode cX7_choiceAt 30 = .ok (.iconst 4, 1) := by decide +kernel
theorem dX7_choiceAt_31 : decode cX7_choiceAt 31 = .ok (.ireturn, 1) := by decide +kernel
theorem dX8_init_0 : decode cX8_init 0 = .ok (.aload_n 0, 1) := by decide +kernel
theorem dX8_init_1 : decode cX8_init 1 = .ok (.invokespecial 1, 3) := by decide +kernel
theorem dX8_init_4 : decode cX8_init 4 = .ok (.return_, 1) := by decide +kernel
theorem dX9_init_0 : decode cX9_init 0 = .ok (.aload_n 0, 1) := by decide +kernel
theorem dX9_init_1 : decode cX9_init 1 = .ok (.invokespecial 3, 3) := by decide +kernel
theorem dX9_init_4 : decode cX9_init 4 = .ok (.aload_n 0, 1) := by decide +kernel
theorem dX9_init_5 : decode cX9_init 5 = .ok (.new 9, 3) := by decide +kernel
theorem dX9_init_8 : decode cX9_init 8 = .ok (.dup, 1) := by decide +kernel
theorem dX9_init_9 : decode cX9_init 9 = .ok (.sipush 200, 3) := by decide +kernel
theorem dX9_init_12 : decode cX9_init 12 = .ok (.invokespecial 11, 3) := by decide +kernel
theorem dX9_init_15 : decode cX9_init 15 = .ok (.putfield 14, 3) := by decide +kernel
theorem dX9_init_18 : decode cX9_init 18 = .ok (.aload_n 0, 1) := by decide +kernel
theorem dX9_init_19 : decode cX9_init 19 = .ok (.new 18, 3) := by decide +kernel
theorem dX9_init_22 : decode cX9_init 22 = .ok (.dup, 1) := by decide +kernel
theorem dX9_init_23 : decode cX9_init 23 = .ok (.invokespecial 20, 3) := by decide +kernel
theorem dX9_init_26 : decode cX9_init 26 = .ok (.putfield 21, 3) := by decide +kernel
theorem dX9_init_29 : decode cX9_init 29 = .ok (.aload_n 0, 1) := by decide +kernel
theorem dX9_init_30 : decode cX9_init 30 = .ok (.new 18, 3) := by decide +kernel
theorem dX9_init_33 : decode cX9_init 33 = .ok (.dup, 1) := by decide +kernel
theorem dX9_init_34 : decode cX9_init 34 = .ok (.invokespecial 20, 3) := by decide +kernel
theorem dX9_init_37 : decode cX9_init 37 = .ok (.putfield 25, 3) := by decide +kernel
theorem dX9_init_40 : decode cX9_init 40 = .ok (.aload_n 0, 1) := by decide +kernel
theorem dX9_init_41 : decode cX9_init 41 = .ok (.new 28, 3) := by decide +kernel
theorem dX9_init_44 : decode cX9_init 44 = .ok (.dup, 1) := by decide +kernel
theorem dX9_init_45 : decode cX9_init 45 = .ok (.invokespecial 30, 3) := by decide +kernel
theorem dX9_init_48 : decode cX9_init 48 = .ok (.putfield 31, 3) := by decide +kernel
theorem dX9_init_51 : decode cX9_init 51 = .ok (.aload_n 0, 1) := by decide +kernel
theorem dX9_init_52 : decode cX9_init 52 = .ok (.new 35, 3) := by decide +kernel
theorem dX9_init_55 : decode cX9_init 55 = .ok (.dup, 1) := by decide +kernel
theorem dX9_init_56 : decode cX9_init 56 = .ok (.invokespecial 37, 3) := by decide +kernel
theorem dX9_init_59 : decode cX9_init 59 = .ok (.putfield 38, 3) := by decide +kernel
theorem dX9_init_62 : decode cX9_init 62 = .ok (.aload_n 0, 1) := by decide +kernel
theorem dX9_init_63 : decode cX9_init 63 = .ok (.new 42, 3) := by decide +kernel
theorem dX9_init_66 : decode cX9_init 66 = .ok (.dup, 1) := by decide +kernel
theorem dX9_init_67 : decode cX9_init 67 = .ok (.invokespecial 44, 3) := by decide +kernel
theorem dX9_init_70 : decode cX9_init 70 = .ok (.putfield 45, 3) := by decide +kernel
theorem dX9_init_73 : decode cX9_init 73 = .ok (.aload_n 0, 1) := by decide +kernel
theorem dX9_init_74 : decode cX9_init 74 = .ok (.new 42, 3) := by decide +kernel
theorem dX9_init_77 : decode cX9_init 77 = .ok (.dup, 1) := by decide +kernel
theorem dX9_init_78 : decode cX9_init 78 = .ok (.invokespecial 44, 3) := by decide +kernel
theorem dX9_init_81 : decode cX9_init 81 = .ok (.putfield 49, 3) := by decide +kernel
theorem dX9_init_84 : decode cX9_init 84 = .ok (.aload_n 0, 1) := by decide +kernel
theorem dX9_init_85 : decode cX9_init 85 = .ok (.iconst 0, 1) := by decide +kernel
theorem dX9_init_86 : decode cX9_init 86 = .ok (.putfield 52, 3) := by decide +kernel
theorem dX9_init_89 : decode cX9_init 89 = .ok (.aload_n 0, 1) := by decide +kernel
theorem dX9_init_90 : decode cX9_init 90 = .ok (.iconst 0, 1) := by decide +kernel
theorem dX9_init_91 : decode cX9_init 91 = .ok (.putfield 56, 3) := by decide +kernel
theorem dX9_init_94 : decode cX9_init 94 = .ok (.return_, 1) := by decide +kernel
theorem dX9_type_0 : decode cX9_type 0 = .ok (.iload_n 1, 1) := by decide +kernel
theorem dX9_type_1 : decode cX9_type 1 = .ok (.ifCond .lt 10, 3) := by decide +kernel
theorem dX9_type_4 : decode cX9_type 4 = .ok (.iload_n 1, 1) := by decide +kernel
theorem dX9_type_5 : decode cX9_type 5 = .ok (.sipush 255, 3) := by decide +kernel
theorem dX9_type_8 : decode cX9_type 8 = .ok (.if_icmp .le 5, 3) := by decide +kernel
theorem dX9_type_11 : decode cX9_type 11 = .ok (.iconst (-1), 1) := by decide +kernel
theorem dX9_type_12 : decode cX9_type 12 = .ok (.ireturn, 1) := by decide +kernel
theorem dX9_type_13 : decode cX9_type 13 = .ok (.aload_n 0, 1) := by decide +kernel
theorem dX9_type_14 : decode cX9_type 14 = .ok (.getfield 14, 3) := by decide +kernel
theorem dX9_type_17 : decode cX9_type 17 = .ok (.invokevirtual 59, 3) := by decide +kernel
theorem dX9_type_20 : decode cX9_type 20 = .ok (.ifCond .eq 6, 3) := by decide +kernel
theorem dX9_type_23 : decode cX9_type 23 = .ok (.bipush (-3), 2) := by decide +kernel
theorem dX9_type_25 : decode cX9_type 25 = .ok (.ireturn, 1) := by decide +kernel
theorem dX9_type_26 : decode cX9_type 26 = .ok (.aload_n 0, 1) := by decide +kernel
theorem dX9_type_27 : decode cX9_type 27 = .ok (.getfield 14, 3) := by decide +kernel
theorem dX9_type_30 : decode cX9_type 30 = .ok (.iload_n 1, 1) := by decide +kernel
theorem dX9_type_31 : decode cX9_type 31 = .ok (.invokevirtual 63, 3) := by decide +kernel
theorem dX9_type_34 : decode cX9_type 34 = .ok (.aload_n 0, 1) := by decide +kernel
theorem dX9_type_35 : decode cX9_type 35 = .ok (.getfield 14, 3) := by decide +kernel
theorem dX9_type_38 : decode cX9_type 38 = .ok (.getfield 66, 3) := by decide +kernel
theorem dX9_type_41 : decode cX9_type 41 = .ok (.ireturn, 1) := by decide +kernel
theorem dX9_clear_0 : decode cX9_clear 0 = .ok (.aload_n 0, 1) := by decide +kernel
theorem dX9_clear_1 : decode cX9_clear 1 = .ok (.getfield 14, 3) := by decide +kernel
theorem dX9_clear_4 : decode cX9_clear 4 = .ok (.getfield 66, 3) := by decide +kernel
theorem dX9_clear_7 : decode cX9_clear 7 = .ok (.istore_n 1, 1) := by decide +kernel
theorem dX9_clear_8 : decode cX9_clear 8 = .ok (.aload_n 0, 1) := by decide +kernel
theorem dX9_clear_9 : decode cX9_clear 9 = .ok (.getfield 14, 3) := by decide +kernel
theorem dX9_clear_12 : decode cX9_clear 12 = .ok (.iconst 0, 1) := by decide +kernel
theorem dX9_clear_13 : decode cX9_clear 13 = .ok (.invokevirtual 70, 3) := by decide +kernel
theorem dX9_clear_16 : decode cX9_clear 16 = .ok (.iload_n 1, 1) := by decide +kernel
theorem dX9_clear_17 : decode cX9_clear 17 = .ok (.ireturn, 1) := by decide +kernel
theorem dX9_begins_0 : decode cX9_begins 0 = .ok (.iload_n 1, 1) := by decide +kernel
theorem dX9_begins_1 : decode cX9_begins 1 = .ok (.iconst 0, 1) := by decide +kernel
theorem dX9_begins_2 : decode cX9_begins 2 = .ok (.iconst 3, 1) := by decide +kernel
theorem dX9_begins_3 : decode cX9_begins 3 = .ok (.invokestatic 73, 3) := by decide +kernel
theorem dX9_begins_6 : decode cX9_begins 6 = .ok (.ifCond .eq 13, 3) := by decide +kernel
theorem dX9_begins_9 : decode cX9_begins 9 = .ok (.iload_n 2, 1) := by decide +kernel
theorem dX9_begins_10 : decode cX9_begins 10 = .ok (.iconst 2, 1) := by decide +kernel
theorem dX9_begins_11 : decode cX9_begins 11 = .ok (.bipush 15, 2) := by decide +kernel
theorem dX9_begins_13 : decode cX9_begins 13 = .ok (.invokestatic 73, 3) := by decide +kernel
theorem dX9_begins_16 : decode cX9_begins 16 = .ok (.ifCond .ne 5, 3) := by decide +kernel
theorem dX9_begins_19 : decode cX9_begins 19 = .ok (.iconst (-1), 1) := by decide +kernel
theorem dX9_begins_20 : decode cX9_begins 20 = .ok (.ireturn, 1) := by decide +kernel
theorem dX9_begins_21 : decode cX9_begins 21 = .ok (.iload_n 3, 1) := by decide +kernel
theorem dX9_begins_22 : decode cX9_begins 22 = .ok (.iconst 4, 1) := by decide +kernel
theorem dX9_begins_23 : decode cX9_begins 23 = .ok (.bipush 60, 2) := by decide +kernel
theorem dX9_begins_25 : decode cX9_begins 25 = .ok (.invokestatic 73, 3) := by decide +kernel
theorem dX9_begins_28 : decode cX9_begins 28 = .ok (.ifCond .eq 14, 3) := by decide +kernel
theorem dX9_begins_31 : decode cX9_begins 31 = .ok (.iload 4, 2) := by decide +kernel
theorem dX9_begins_33 : decode cX9_begins 33 = .ok (.iconst 0, 1) := by decide +kernel
theorem dX9_begins_34 : decode cX9_begins 34 = .ok (.bipush 9, 2) := by decide +kernel
theorem dX9_begins_36 : decode cX9_begins 36 = .ok (.invokestatic 73, 3) := by decide +kernel
theorem dX9_begins_39 : decode cX9_begins 39 = .ok (.ifCond .ne 5, 3) := by decide +kernel
theorem dX9_begins_42 : decode cX9_begins 42 = .ok (.iconst (-1), 1) := by decide +kernel
theorem dX9_begins_43 : decode cX9_begins 43 = .ok (.ireturn, 1) := by decide +kernel
theorem dX9_begins_44 : decode cX9_begins 44 = .ok (.aload_n 0, 1) := by decide +kernel
theorem dX9_begins_45 : decode cX9_begins 45 = .ok (.getfield 21, 3) := by decide +kernel
theorem dX9_begins_48 : decode cX9_begins 48 = .ok (.getfield 77, 3) := by decide +kernel
theorem dX9_begins_51 : decode cX9_begins 51 = .ok (.getfield 80, 3) := by decide +kernel
theorem dX9_begins_54 : decode cX9_begins 54 = .ok (.getfield 66, 3) := by decide +kernel
theorem dX9_begins_57 : decode cX9_begins 57 = .ok (.istore 5, 2) := by decide +kernel
theorem dX9_begins_59 : decode cX9_begins 59 = .ok (.aload_n 0, 1) := by decide +kernel
theorem dX9_begins_60 : decode cX9_begins 60 = .ok (.getfield 38, 3) := by decide +kernel
theorem dX9_begins_63 : decode cX9_begins 63 = .ok (.aload_n 0, 1) := by decide +kernel
theorem dX9_begins_64 : decode cX9_begins 64 = .ok (.getfield 21, 3) := by decide +kernel
theorem dX9_begins_67 : decode cX9_begins 67 = .ok (.getfield 77, 3) := by decide +kernel
theorem dX9_begins_70 : decode cX9_begins 70 = .ok (.invokevirtual 83, 3) := by decide +kernel
theorem dX9_begins_73 : decode cX9_begins 73 = .ok (.aload_n 0, 1) := by decide +kernel
theorem dX9_begins_74 : decode cX9_begins 74 = .ok (.getfield 21, 3) := by decide +kernel
theorem dX9_begins_77 : decode cX9_begins 77 = .ok (.getfield 77, 3) := by decide +kernel
theorem dX9_begins_80 : decode cX9_begins 80 = .ok (.iload_n 1, 1) := by decide +kernel
theorem dX9_begins_81 : decode cX9_begins 81 = .ok (.iload_n 2, 1) := by decide +kernel
theorem dX9_begins_82 : decode cX9_begins 82 = .ok (.iload_n 3, 1) := by decide +kernel
theorem dX9_begins_83 : decode cX9_begins 83 = .ok (.iload 4, 2) := by decide +kernel
theorem dX9_begins_85 : decode cX9_begins 85 = .ok (.invokevirtual 87, 3) := by decide +kernel
theorem dX9_begins_88 : decode cX9_begins 88 = .ok (.aload_n 0, 1) := by decide +kernel
theorem dX9_begins_89 : decode cX9_begins 89 = .ok (.getfield 21, 3) := by decide +kernel
theorem dX9_begins_92 : decode cX9_begins 92 = .ok (.invokevirtual 91, 3) := by decide +kernel
theorem dX9_begins_95 : decode cX9_begins 95 = .ok (.iload 5, 2) := by decide +kernel
theorem dX9_begins_97 : decode cX9_begins 97 = .ok (.ireturn, 1) := by decide +kernel
theorem dX9_packs_0 : decode cX9_packs 0 = .ok (.iload_n 1, 1) := by decide +kernel
theorem dX9_packs_1 : decode cX9_packs 1 = .ok (.invokestatic 94, 3) := by decide +kernel
theorem dX9_packs_4 : decode cX9_packs 4 = .ok (.ifCond .ne 6, 3) := by decide +kernel
theorem dX9_packs_7 : decode cX9_packs 7 = .ok (.bipush (-5), 2) := by decide +kernel
theorem dX9_packs_9 : decode cX9_packs 9 = .ok (.ireturn, 1) := by decide +kernel
theorem dX9_packs_10 : decode cX9_packs 10 = .ok (.aload_n 0, 1) := by decide +kernel
theorem dX9_packs_11 : decode cX9_packs 11 = .ok (.getfield 21, 3) := by decide +kernel
theorem dX9_packs_14 : decode cX9_packs 14 = .ok (.getfield 77, 3) := by decide +kernel
theorem dX9_packs_17 : decode cX9_packs 17 = .ok (.getfield 80, 3) := by decide +kernel
theorem dX9_packs_20 : decode cX9_packs 20 = .ok (.invokevirtual 59, 3) := by decide +kernel
theorem dX9_packs_23 : decode cX9_packs 23 = .ok (.ifCond .eq 6, 3) := by decide +kernel
theorem dX9_packs_26 : decode cX9_packs 26 = .ok (.bipush (-6), 2) := by decide +kernel
theorem dX9_packs_28 : decode cX9_packs 28 = .ok (.ireturn, 1) := by decide +kernel
theorem dX9_packs_29 : decode cX9_packs 29 = .ok (.aload_n 0, 1) := by decide +kernel
theorem dX9_packs_30 : decode cX9_packs 30 = .ok (.getfield 38, 3) := by decide +kernel
theorem dX9_packs_33 : decode cX9_packs 33 = .ok (.aload_n 0, 1) := by decide +kernel
theorem dX9_packs_34 : decode cX9_packs 34 = .ok (.getfield 21, 3) := by decide +kernel
theorem dX9_packs_37 : decode cX9_packs 37 = .ok (.getfield 77, 3) := by decide +kernel
theorem dX9_packs_40 : decode cX9_packs 40 = .ok (.invokevirtual 83, 3) := by decide +kernel
theorem dX9_packs_43 : decode cX9_packs 43 = .ok (.aload_n 0, 1) := by decide +kernel
theorem dX9_packs_44 : decode cX9_packs 44 = .ok (.getfield 21, 3) := by decide +kernel
theorem dX9_packs_47 : decode cX9_packs 47 = .ok (.getfield 77, 3) := by decide +kernel
theorem dX9_packs_50 : decode cX9_packs 50 = .ok (.getfield 80, 3) := by decide +kernel
theorem dX9_packs_53 : decode cX9_packs 53 = .ok (.iload_n 1, 1) := by decide +kernel
theorem dX9_packs_54 : decode cX9_packs 54 = .ok (.invokevirtual 63, 3) := by decide +kernel
theorem dX9_packs_57 : decode cX9_packs 57 = .ok (.aload_n 0, 1) := by decide +kernel
theorem dX9_packs_58 : decode cX9_packs 58 = .ok (.getfield 21, 3) := by decide +kernel
theorem dX9_packs_61 : decode cX9_packs 61 = .ok (.invokevirtual 98, 3) := by decide +kernel
theorem dX9_packs_64 : decode cX9_packs 64 = .ok (.ireturn, 1) := by decide +kernel
theorem dX9_word_0 : decode cX9_word 0 = .ok (.aload_n 0, 1) := by decide +kernel
theorem dX9_word_1 : decode cX9_word 1 = .ok (.bipush 97, 2) := by decide +kernel
theorem dX9_word_3 : decode cX9_word 3 = .ok (.iconst 4, 1) := by decide +kernel
theorem dX9_word_4 : decode cX9_word 4 = .ok (.invokevirtual 102, 3) := by decide +kernel
theorem dX9_word_7 : decode cX9_word 7 = .ok (.istore_n 1, 1) := by decide +kernel
theorem dX9_word_8 : decode cX9_word 8 = .ok (.iload_n 1, 1) := by decide +kernel
theorem dX9_word_9 : decode cX9_word 9 = .ok (.ifCond .lt 8, 3) := by decide +kernel
theorem dX9_word_12 : decode cX9_word 12 = .ok (.bipush (-10), 2) := by decide +kernel
theorem dX9_word_14 : decode cX9_word 14 = .ok (.iload_n 1, 1) := by decide +kernel
theorem dX9_word_15 : decode cX9_word 15 = .ok (.isub, 1) := by decide +kernel
theorem dX9_word_16 : decode cX9_word 16 = .ok (.ireturn, 1) := by decide +kernel
theorem dX9_word_17 : decode cX9_word 17 = .ok (.aload_n 0, 1) := by decide +kernel
theorem dX9_word_18 : decode cX9_word 18 = .ok (.getfield 14, 3) := by decide +kernel
theorem dX9_word_21 : decode cX9_word 21 = .ok (.getfield 66, 3) := by decide +kernel
theorem dX9_word_24 : decode cX9_word 24 = .ok (.istore_n 2, 1) := by decide +kernel
theorem dX9_word_25 : decode cX9_word 25 = .ok (.aload_n 0, 1) := by decide +kernel
theorem dX9_word_26 : decode cX9_word 26 = .ok (.getfield 21, 3) := by decide +kernel
theorem dX9_word_29 : decode cX9_word 29 = .ok (.getfield 77, 3) := by decide +kernel
theorem dX9_word_32 : decode cX9_word 32 = .ok (.getfield 80, 3) := by decide +kernel
theorem dX9_word_35 : decode cX9_word 35 = .ok (.getfield 66, 3) := by decide +kernel
theorem dX9_word_38 : decode cX9_word 38 = .ok (.iload_n 2, 1) := by decide +kernel
theorem dX9_word_39 : decode cX9_word 39 = .ok (.iadd, 1) := by decide +kernel
theorem dX9_word_40 : decode cX9_word 40 = .ok (.bipush 60, 2) := by decide +kernel
theorem dX9_word_42 : decode cX9_word 42 = .ok (.if_icmp .le 6, 3) := by decide +kernel
theorem dX9_word_45 : decode cX9_word 45 = .ok (.bipush (-3), 2) := by decide +kernel
theorem dX9_word_47 : decode cX9_word 47 = .ok (.ireturn, 1) := by decide +kernel
theorem dX9_word_48 : decode cX9_word 48 = .ok (.aload_n 0, 1) := by decide +kernel
theorem dX9_word_49 : decode cX9_word 49 = .ok (.getfield 38, 3) := by decide +kernel
theorem dX9_word_52 : decode cX9_word 52 = .ok (.aload_n 0, 1) := by decide +kernel
theorem dX9_word_53 : decode cX9_word 53 = .ok (.getfield 21, 3) := by decide +kernel
theorem dX9_word_56 : decode cX9_word 56 = .ok (.getfield 77, 3) := by decide +kernel
theorem dX9_word_59 : decode cX9_word 59 = .ok (.invokevirtual 83, 3) := by decide +kernel
theorem dX9_word_62 : decode cX9_word 62 = .ok (.iconst 0, 1) := by decide +kernel
theorem dX9_word_63 : decode cX9_word 63 = .ok (.istore_n 3, 1) := by decide +kernel
theorem dX9_word_64 : decode cX9_word 64 = .ok (.iload_n 3, 1) := by decide +kernel
theorem dX9_word_65 : decode cX9_word 65 = .ok (.iload_n 2, 1) := by decide +kernel
theorem dX9_word_66 : decode cX9_word 66 = .ok (.if_icmp .ge 41, 3) := by decide +kernel
theorem dX9_word_69 : decode cX9_word 69 = .ok (.aload_n 0, 1) := by decide +kernel
theorem dX9_word_70 : decode cX9_word 70 = .ok (.getfield 21, 3) := by decide +kernel
theorem dX9_word_73 : decode cX9_word 73 = .ok (.getfield 77, 3) := by decide +kernel
theorem dX9_word_76 : decode cX9_word 76 = .ok (.getfield 80, 3) := by decide +kernel
theorem dX9_word_79 : decode cX9_word 79 = .ok (.aload_n 0, 1) := by decide +kernel
theorem dX9_word_80 : decode cX9_word 80 = .ok (.getfield 14, 3) := by decide +kernel
theorem dX9_word_83 : decode cX9_word 83 = .ok (.iload_n 3, 1) := by decide +kernel
theorem dX9_word_84 : decode cX9_word 84 = .ok (.invokevirtual 106, 3) := by decide +kernel
theorem dX9_word_87 : decode cX9_word 87 = .ok (.bipush 97, 2) := by decide +kernel
theorem dX9_word_89 : decode cX9_word 89 = .ok (.isub, 1) := by decide +kernel
theorem dX9_word_90 : decode cX9_word 90 = .ok (.invokevirtual 63, 3) := by decide +kernel
theorem dX9_word_93 : decode cX9_word 93 = .ok (.aload_n 0, 1) := by decide +kernel
theorem dX9_word_94 : decode cX9_word 94 = .ok (.getfield 21, 3) := by decide +kernel
theorem dX9_word_97 : decode cX9_word 97 = .ok (.invokevirtual 98, 3) := by decide +kernel
theorem dX9_word_100 : decode cX9_word 100 = .ok (.pop, 1) := by decide +kernel
theorem dX9_word_101 : decode cX9_word 101 = .ok (.iinc 3 1, 3) := by decide +kernel
theorem dX9_word_104 : decode cX9_word 104 = .ok (.goto (-40), 3) := by decide +kernel
theorem dX9_word_107 : decode cX9_word 107 = .ok (.aload_n 0, 1) := by decide +kernel
theorem dX9_word_108 : decode cX9_word 108 = .ok (.getfield 14, 3) := by decide +kernel
theorem dX9_word_111 : decode cX9_word 111 = .ok (.iconst 0, 1) := by decide +kernel
theorem dX9_word_112 : decode cX9_word 112 = .ok (.invokevirtual 70, 3) := by decide +kernel
theorem dX9_word_115 : decode cX9_word 115 = .ok (.iload_n 2, 1) := by decide +kernel
theorem dX9_word_116 : decode cX9_word 116 = .ok (.ireturn, 1) := by decide +kernel
theorem dX9_cuts_0 : decode cX9_cuts 0 = .ok (.iload_n 1, 1) := by decide +kernel
theorem dX9_cuts_1 : decode cX9_cuts 1 = .ok (.iconst 1, 1) := by decide +kernel
theorem dX9_cuts_2 : decode cX9_cuts 2 = .ok (.if_icmp .ge 5, 3) := by decide +kernel
theorem dX9_cuts_5 : decode cX9_cuts 5 = .ok (.iconst (-1), 1) := by decide +kernel
theorem dX9_cuts_6 : decode cX9_cuts 6 = .ok (.ireturn, 1) := by decide +kernel
theorem dX9_cuts_7 : decode cX9_cuts 7 = .ok (.iload_n 1, 1) := by decide +kernel
theorem dX9_cuts_8 : decode cX9_cuts 8 = .ok (.aload_n 0, 1) := by decide +kernel
theorem dX9_cuts_9 : decode cX9_cuts 9 = .ok (.getfield 21, 3) := by decide +kernel
theorem dX9_cuts_12 : decode cX9_cuts 12 = .ok (.getfield 77, 3) := by decide +kernel
theorem dX9_cuts_15 : decode cX9_cuts 15 = .ok (.getfield 80, 3) := by decide +kernel
theorem dX9_cuts_18 : decode cX9_cuts 18 = .ok (.getfield 66, 3) := by decide +kernel
theorem dX9_cuts_21 : decode cX9_cuts 21 = .ok (.if_icmp .le 6, 3) := by decide +kernel
theorem dX9_cuts_24 : decode cX9_cuts 24 = .ok (.bipush (-2), 2) := by decide +kernel
theorem dX9_cuts_26 : decode cX9_cuts 26 = .ok (.ireturn, 1) := by decide +kernel
theorem dX9_cuts_27 : decode cX9_cuts 27 = .ok (.aload_n 0, 1) := by decide +kernel
theorem dX9_cuts_28 : decode cX9_cuts 28 = .ok (.getfield 38, 3) := by decide +kernel
theorem dX9_cuts_31 : decode cX9_cuts 31 = .ok (.aload_n 0, 1) := by decide +kernel
theorem dX9_cuts_32 : decode cX9_cuts 32 = .ok (.getfield 21, 3) := by decide +kernel
theorem dX9_cuts_35 : decode cX9_cuts 35 = .ok (.getfield 77, 3) := by decide +kernel
theorem dX9_cuts_38 : decode cX9_cuts 38 = .ok (.invokevirtual 83, 3) := by decide +kernel
theorem dX9_cuts_41 : decode cX9_cuts 41 = .ok (.aload_n 0, 1) := by decide +kernel
theorem dX9_cuts_42 : decode cX9_cuts 42 = .ok (.getfield 21, 3) := by decide +kernel
theorem dX9_cuts_45 : decode cX9_cuts 45 = .ok (.getfield 77, 3) := by decide +kernel
theorem dX9_cuts_48 : decode cX9_cuts 48 = .ok (.getfield 80, 3) := by decide +kernel
theorem dX9_cuts_51 : decode cX9_cuts 51 = .ok (.aload_n 0, 1) := by decide +kernel
theorem dX9_cuts_52 : decode cX9_cuts 52 = .ok (.getfield 21, 3) := by decide +kernel
theorem dX9_cuts_55 : decode cX9_cuts 55 = .ok (.getfield 77, 3) := by decide +kernel
theorem dX9_cuts_58 : decode cX9_cuts 58 = .ok (.getfield 80, 3) := by decide +kernel
theorem dX9_cuts_61 : decode cX9_cuts 61 = .ok (.getfield 66, 3) := by decide +kernel
theorem dX9_cuts_64 : decode cX9_cuts 64 = .ok (.iload_n 1, 1) := by decide +kernel
theorem dX9_cuts_65 : decode cX9_cuts 65 = .ok (.isub, 1) := by decide +kernel
theorem dX9_cuts_66 : decode cX9_cuts 66 = .ok (.invokevirtual 70, 3) := by decide +kernel
theorem dX9_cuts_69 : decode cX9_cuts 69 = .ok (.aload_n 0, 1) := by decide +kernel
theorem dX9_cuts_70 : decode cX9_cuts 70 = .ok (.getfield 21, 3) := by decide +kernel
theorem dX9_cuts_73 : decode cX9_cuts 73 = .ok (.invokevirtual 91, 3) := by decide +kernel
theorem dX9_cuts_76 : decode cX9_cuts 76 = .ok (.aload_n 0, 1) := by decide +kernel
theorem dX9_cuts_77 : decode cX9_cuts 77 = .ok (.getfield 21, 3) := by decide +kernel
theorem dX9_cuts_80 : decode cX9_cuts 80 = .ok (.getfield 77, 3) := by decide +kernel
theorem dX9_cuts_83 : decode cX9_cuts 83 = .ok (.getfield 80, 3) := by decide +kernel
theorem dX9_cuts_86 : decode cX9_cuts 86 = .ok (.getfield 66, 3) := by decide +kernel
theorem dX9_cuts_89 : decode cX9_cuts 89 = .ok (.ireturn, 1) := by decide +kernel
theorem dX9_undo_0 : decode cX9_undo 0 = .ok (.aload_n 0, 1) := by decide +kernel
theorem dX9_undo_1 : decode cX9_undo 1 = .ok (.getfield 38, 3) := by decide +kernel
theorem dX9_undo_4 : decode cX9_undo 4 = .ok (.getfield 110, 3) := by decide +kernel
theorem dX9_undo_7 : decode cX9_undo 7 = .ok (.ifCond .ne 6, 3) := by decide +kernel
theorem dX9_undo_10 : decode cX9_undo 10 = .ok (.bipush (-2), 2) := by decide +kernel
theorem dX9_undo_12 : decode cX9_undo 12 = .ok (.ireturn, 1) := by decide +kernel
theorem dX9_undo_13 : decode cX9_undo 13 = .ok (.aload_n 0, 1) := by decide +kernel
theorem dX9_undo_14 : decode cX9_undo 14 = .ok (.getfield 38, 3) := by decide +kernel
theorem dX9_undo_17 : decode cX9_undo 17 = .ok (.aload_n 0, 1) := by decide +kernel
theorem dX9_undo_18 : decode cX9_undo 18 = .ok (.getfield 21, 3) := by decide +kernel
theorem dX9_undo_21 : decode cX9_undo 21 = .ok (.getfield 77, 3) := by decide +kernel
theorem dX9_undo_24 : decode cX9_undo 24 = .ok (.invokevirtual 113, 3) := by decide +kernel
theorem dX9_undo_27 : decode cX9_undo 27 = .ok (.aload_n 0, 1) := by decide +kernel
theorem dX9_undo_28 : decode cX9_undo 28 = .ok (.getfield 21, 3) := by decide +kernel
theorem dX9_undo_31 : decode cX9_undo 31 = .ok (.invokevirtual 91, 3) := by decide +kernel
theorem dX9_undo_34 : decode cX9_undo 34 = .ok (.aload_n 0, 1) := by decide +kernel
theorem dX9_undo_35 : decode cX9_undo 35 = .ok (.getfield 38, 3) := by decide +kernel
theorem dX9_undo_38 : decode cX9_undo 38 = .ok (.getfield 110, 3) := by decide +kernel
theorem dX9_undo_41 : decode cX9_undo 41 = .ok (.ireturn, 1) := by decide +kernel
theorem dX9_sign_0 : decode cX9_sign 0 = .ok (.iload_n 1, 1) := by decide +kernel
theorem dX9_sign_1 : decode cX9_sign 1 = .ok (.ifCond .lt 20, 3) := by decide +kernel
theorem dX9_sign_4 : decode cX9_sign 4 = .ok (.iload_n 1, 1) := by decide +kernel
theorem dX9_sign_5 : decode cX9_sign 5 = .ok (.aload_n 0, 1) := by decide +kernel
theorem dX9_sign_6 : decode cX9_sign 6 = .ok (.getfield 21, 3) := by decide +kernel
theorem dX9_sign_9 : decode cX9_sign 9 = .ok (.getfield 77, 3) := by decide +kernel
theorem dX9_sign_12 : decode cX9_sign 12 = .ok (.getfield 80, 3) := by decide +kernel
theorem dX9_sign_15 : decode cX9_sign 15 = .ok (.getfield 66, 3) := by decide +kernel
theorem dX9_sign_18 : decode cX9_sign 18 = .ok (.if_icmp .lt 5, 3) := by decide +kernel
theorem dX9_sign_21 : decode cX9_sign 21 = .ok (.iconst (-1), 1) := by decide +kernel
theorem dX9_sign_22 : decode cX9_sign 22 = .ok (.ireturn, 1) := by decide +kernel
theorem dX9_sign_23 : decode cX9_sign 23 = .ok (.aload_n 0, 1) := by decide +kernel
theorem dX9_sign_24 : decode cX9_sign 24 = .ok (.getfield 21, 3) := by decide +kernel
theorem dX9_sign_27 : decode cX9_sign 27 = .ok (.getfield 77, 3) := by decide +kernel
theorem dX9_sign_30 : decode cX9_sign 30 = .ok (.getfield 80, 3) := by decide +kernel
theorem dX9_sign_33 : decode cX9_sign 33 = .ok (.iload_n 1, 1) := by decide +kernel
theorem dX9_sign_34 : decode cX9_sign 34 = .ok (.invokevirtual 106, 3) := by decide +kernel
theorem dX9_sign_37 : decode cX9_sign 37 = .ok (.ireturn, 1) := by decide +kernel
theorem dX9_count_0 : decode cX9_count 0 = .ok (.iload_n 1, 1) := by decide +kernel
theorem dX9_count_1 : decode cX9_count 1 = .ok (.ifCond .lt 25, 3) := by decide +kernel
theorem dX9_count_4 : decode cX9_count 4 = .ok (.iload_n 1, 1) := by decide +kernel
theorem dX9_count_5 : decode cX9_count 5 = .ok (.aload_n 0, 1) := by decide +kernel
theorem dX9_count_6 : decode cX9_count 6 = .ok (.getfield 21, 3) := by decide +kernel
theorem dX9_count_9 : decode cX9_count 9 = .ok (.getfield 77, 3) := by decide +kernel
theorem dX9_count_12 : decode cX9_count 12 = .ok (.getfield 116, 3) := by decide +kernel
theorem dX9_count_15 : decode cX9_count 15 = .ok (.if_icmp .gt 11, 3) := by decide +kernel
theorem dX9_count_18 : decode cX9_count 18 = .ok (.iload 5, 2) := by decide +kernel
theorem dX9_count_20 : decode cX9_count 20 = .ok (.invokestatic 94, 3) := by decide +kernel
theorem dX9_count_23 : decode cX9_count 23 = .ok (.ifCond .ne 5, 3) := by decide +kernel
theorem dX9_count_26 : decode cX9_count 26 = .ok (.iconst (-1), 1) := by decide +kernel
theorem dX9_count_27 : decode cX9_count 27 = .ok (.ireturn, 1) := by decide +kernel
theorem dX9_count_28 : decode cX9_count 28 = .ok (.iload_n 2, 1) := by decide +kernel
theorem dX9_count_29 : decode cX9_count 29 = .ok (.iload_n 1, 1) := by decide +kernel
theorem dX9_count_30 : decode cX9_count 30 = .ok (.ifCond .le 7, 3) := by decide +kernel
theorem dX9_count_33 : decode cX9_count 33 = .ok (.iconst 1, 1) := by decide +kernel
theorem dX9_count_34 : decode cX9_count 34 = .ok (.goto 4, 3) := by decide +kernel
theorem dX9_count_37 : decode cX9_count 37 = .ok (.iconst 0, 1) := by decide +kernel
theorem dX9_count_38 : decode cX9_count 38 = .ok (.invokestatic 119, 3) := by decide +kernel
theorem dX9_count_41 : decode cX9_count 41 = .ok (.ifCond .eq 38, 3) := by decide +kernel
theorem dX9_count_44 : decode cX9_count 44 = .ok (.iload_n 3, 1) := by decide +kernel
theorem dX9_count_45 : decode cX9_count 45 = .ok (.iload_n 1, 1) := by decide +kernel
theorem dX9_count_46 : decode cX9_count 46 = .ok (.iconst 1, 1) := by decide +kernel
theorem dX9_count_47 : decode cX9_count 47 = .ok (.if_icmp .le 7, 3) := by decide +kernel
theorem dX9_count_50 : decode cX9_count 50 = .ok (.iconst 1, 1) := by decide +kernel
theorem dX9_count_51 : decode cX9_count 51 = .ok (.goto 4, 3) := by decide +kernel
theorem dX9_count_54 : decode cX9_count 54 = .ok (.iconst 0, 1) := by decide +kernel
theorem dX9_count_55 : decode cX9_count 55 = .ok (.invokestatic 119, 3) := by decide +kernel
theorem dX9_count_58 : decode cX9_count 58 = .ok (.ifCond .eq 21, 3) := by decide +kernel
theorem dX9_count_61 : decode cX9_count 61 = .ok (.iload 4, 2) := by decide +kernel
theorem dX9_count_63 : decode cX9_count 63 = .ok (.iload_n 1, 1) := by decide +kernel
theorem dX9_count_64 : decode cX9_count 64 = .ok (.iconst 2, 1) := by decide +kernel
theorem dX9_count_65 : decode cX9_count 65 = .ok (.if_icmp .le 7, 3) := by decide +kernel
theorem dX9_count_68 : decode cX9_count 68 = .ok (.iconst 1, 1) := by decide +kernel
theorem dX9_count_69 : decode cX9_count 69 = .ok (.goto 4, 3) := by decide +kernel
theorem dX9_count_72 : decode cX9_count 72 = .ok (.iconst 0, 1) := by decide +kernel
theorem dX9_count_73 : decode cX9_count 73 = .ok (.invokestatic 119, 3) := by decide +kernel
theorem dX9_count_76 : decode cX9_count 76 = .ok (.ifCond .ne 5, 3) := by decide +kernel
theorem dX9_count_79 : decode cX9_count 79 = .ok (.iconst (-1), 1) := by decide +kernel
theorem dX9_count_80 : decode cX9_count 80 = .ok (.ireturn, 1) := by decide +kernel
theorem dX9_count_81 : decode cX9_count 81 = .ok (.iconst 0, 1) := by decide +kernel
theorem dX9_count_82 : decode cX9_count 82 = .ok (.istore 6, 2) := by decide +kernel
theorem dX9_count_84 : decode cX9_count 84 = .ok (.iload_n 1, 1) := by decide +kernel
theorem dX9_count_85 : decode cX9_count 85 = .ok (.ifCond .le 11, 3) := by decide +kernel
theorem dX9_count_88 : decode cX9_count 88 = .ok (.iload 6, 2) := by decide +kernel
theorem dX9_count_90 : decode cX9_count 90 = .ok (.iload_n 2, 1) := by decide +kernel
theorem dX9_count_91 : decode cX9_count 91 = .ok (.invokestatic 123, 3) := by decide +kernel
theorem dX9_count_94 : decode cX9_count 94 = .ok (.istore 6, 2) := by decide +kernel
theorem dX9_count_96 : decode cX9_count 96 = .ok (.iload_n 1, 1) := by decide +kernel
theorem dX9_count_97 : decode cX9_count 97 = .ok (.iconst 1, 1) := by decide +kernel
theorem dX9_count_98 : decode cX9_count 98 = .ok (.if_icmp .le 11, 3) := by decide +kernel
theorem dX9_count_101 : decode cX9_count 101 = .ok (.iload 6, 2) := by decide +kernel
theorem dX9_count_103 : decode cX9_count 103 = .ok (.iload_n 3, 1) := by decide +kernel
theorem dX9_count_104 : decode cX9_count 104 = .ok (.invokestatic 123, 3) := by decide +kernel
theorem dX9_count_107 : decode cX9_count 107 = .ok (.istore 6, 2) := by decide +kernel
theorem dX9_count_109 : decode cX9_count 109 = .ok (.iload_n 1, 1) := by decide +kernel
theorem dX9_count_110 : decode cX9_count 110 = .ok (.iconst 2, 1) := by decide +kernel
theorem dX9_count_111 : decode cX9_count 111 = .ok (.if_icmp .le 12, 3) := by decide +kernel
theorem dX9_count_114 : decode cX9_count 114 = .ok (.iload 6, 2) := by decide +kernel
theorem dX9_count_116 : decode cX9_count 116 = .ok (.iload 4, 2) := by decide +kernel
theorem dX9_count_118 : decode cX9_count 118 = .ok (.invokestatic 123, 3) := by decide +kernel
theorem dX9_count_121 : decode cX9_count 121 = .ok (.istore 6, 2) := by decide +kernel
theorem dX9_count_123 : decode cX9_count 123 = .ok (.aload_n 0, 1) := by decide +kernel
theorem dX9_count_124 : decode cX9_count 124 = .ok (.getfield 21, 3) := by decide +kernel
theorem dX9_count_127 : decode cX9_count 127 = .ok (.getfield 126, 3) := by decide +kernel
theorem dX9_count_130 : decode cX9_count 130 = .ok (.iload 6, 2) := by decide +kernel
theorem dX9_count_132 : decode cX9_count 132 = .ok (.iload 5, 2) := by decide +kernel
theorem dX9_count_134 : decode cX9_count 134 = .ok (.invokevirtual 130, 3) := by decide +kernel
theorem dX9_count_137 : decode cX9_count 137 = .ok (.ireturn, 1) := by decide +kernel
theorem dX9_bit_0 : decode cX9_bit 0 = .ok (.iload_n 1, 1) := by decide +kernel
theorem dX9_bit_1 : decode cX9_bit 1 = .ok (.ifCond .ge 5, 3) := by decide +kernel
theorem dX9_bit_4 : decode cX9_bit 4 = .ok (.iconst (-1), 1) := by decide +kernel
theorem dX9_bit_5 : decode cX9_bit 5 = .ok (.ireturn, 1) := by decide +kernel
theorem dX9_bit_6 : decode cX9_bit 6 = .ok (.iload_n 1, 1) := by decide +kernel
theorem dX9_bit_7 : decode cX9_bit 7 = .ok (.aload_n 0, 1) := by decide +kernel
theorem dX9_bit_8 : decode cX9_bit 8 = .ok (.getfield 21, 3) := by decide +kernel
theorem dX9_bit_11 : decode cX9_bit 11 = .ok (.getfield 134, 3) := by decide +kernel
theorem dX9_bit_14 : decode cX9_bit 14 = .ok (.getfield 138, 3) := by decide +kernel
theorem dX9_bit_17 : decode cX9_bit 17 = .ok (.getfield 66, 3) := by decide +kernel
theorem dX9_bit_20 : decode cX9_bit 20 = .ok (.if_icmp .ge 20, 3) := by decide +kernel
theorem dX9_bit_23 : decode cX9_bit 23 = .ok (.aload_n 0, 1) := by decide +kernel
theorem dX9_bit_24 : decode cX9_bit 24 = .ok (.getfield 21, 3) := by decide +kernel
theorem dX9_bit_27 : decode cX9_bit 27 = .ok (.getfield 134, 3) := by decide +kernel
theorem dX9_bit_30 : decode cX9_bit 30 = .ok (.getfield 138, 3) := by decide +kernel
theorem dX9_bit_33 : decode cX9_bit 33 = .ok (.iload_n 1, 1) := by decide +kernel
theorem dX9_bit_34 : decode cX9_bit 34 = .ok (.invokevirtual 106, 3) := by decide +kernel
theorem dX9_bit_37 : decode cX9_bit 37 = .ok (.goto 5, 3) := by decide +kernel
theorem dX9_bit_40 : decode cX9_bit 40 = .ok (.bipush (-9), 2) := by decide +kernel
theorem dX9_bit_42 : decode cX9_bit 42 = .ok (.ireturn, 1) := by decide +kernel
theorem dX9_chance_0 : decode cX9_chance 0 = .ok (.iload_n 1, 1) := by decide +kernel
theorem dX9_chance_1 : decode cX9_chance 1 = .ok (.invokestatic 94, 3) := by decide +kernel
theorem dX9_chance_4 : decode cX9_chance 4 = .ok (.ifCond .eq 12, 3) := by decide +kernel
theorem dX9_chance_7 : decode cX9_chance 7 = .ok (.iload_n 2, 1) := by decide +kernel
theorem dX9_chance_8 : decode cX9_chance 8 = .ok (.iconst 0, 1) := by decide +kernel
theorem dX9_chance_9 : decode cX9_chance 9 = .ok (.iconst 1, 1) := by decide +kernel
theorem dX9_chance_10 : decode cX9_chance 10 = .ok (.invokestatic 73, 3) := by decide +kernel
theorem dX9_chance_13 : decode cX9_chance 13 = .ok (.ifCond .ne 5, 3) := by decide +kernel
theorem dX9_chance_16 : decode cX9_chance 16 = .ok (.iconst (-1), 1) := by decide +kernel
theorem dX9_chance_17 : decode cX9_chance 17 = .ok (.ireturn, 1) := by decide +kernel
theorem dX9_chance_18 : decode cX9_chance 18 = .ok (.aload_n 0, 1) := by decide +kernel
theorem dX9_chance_19 : decode cX9_chance 19 = .ok (.getfield 21, 3) := by decide +kernel
theorem dX9_chance_22 : decode cX9_chance 22 = .ok (.aload_n 0, 1) := by decide +kernel
theorem dX9_chance_23 : decode cX9_chance 23 = .ok (.getfield 31, 3) := by decide +kernel
theorem dX9_chance_26 : decode cX9_chance 26 = .ok (.iload_n 1, 1) := by decide +kernel
theorem dX9_chance_27 : decode cX9_chance 27 = .ok (.invokevirtual 143, 3) := by decide +kernel
theorem dX9_chance_30 : decode cX9_chance 30 = .ok (.pop, 1) := by decide +kernel
theorem dX9_chance_31 : decode cX9_chance 31 = .ok (.aload_n 0, 1) := by decide +kernel
theorem dX9_chance_32 : decode cX9_chance 32 = .ok (.getfield 31, 3) := by decide +kernel
theorem dX9_chance_35 : decode cX9_chance 35 = .ok (.iload_n 2, 1) := by decide +kernel
theorem dX9_chance_36 : decode cX9_chance 36 = .ok (.ifCond .ne 13, 3) := by decide +kernel
theorem dX9_chance_39 : decode cX9_chance 39 = .ok (.aload_n 0, 1) := by decide +kernel
theorem dX9_chance_40 : decode cX9_chance 40 = .ok (.getfield 31, 3) := by decide +kernel
theorem dX9_chance_43 : decode cX9_chance 43 = .ok (.getfield 147, 3) := by decide +kernel
theorem dX9_chance_46 : decode cX9_chance 46 = .ok (.goto 10, 3) := by decide +kernel
theorem dX9_chance_49 : decode cX9_chance 49 = .ok (.aload_n 0, 1) := by decide +kernel
theorem dX9_chance_50 : decode cX9_chance 50 = .ok (.getfield 31, 3) := by decide +kernel
theorem dX9_chance_53 : decode cX9_chance 53 = .ok (.getfield 151, 3) := by decide +kernel
theorem dX9_chance_56 : decode cX9_chance 56 = .ok (.invokevirtual 154, 3) := by decide +kernel
theorem dX9_chance_59 : decode cX9_chance 59 = .ok (.ireturn, 1) := by decide +kernel
theorem dX9_escapes_0 : decode cX9_escapes 0 = .ok (.iload_n 1, 1) := by decide +kernel
theorem dX9_escapes_1 : decode cX9_escapes 1 = .ok (.invokestatic 94, 3) := by decide +kernel
theorem dX9_escapes_4 : decode cX9_escapes 4 = .ok (.ifCond .eq 12, 3) := by decide +kernel
theorem dX9_escapes_7 : decode cX9_escapes 7 = .ok (.iload_n 2, 1) := by decide +kernel
theorem dX9_escapes_8 : decode cX9_escapes 8 = .ok (.iconst 0, 1) := by decide +kernel
theorem dX9_escapes_9 : decode cX9_escapes 9 = .ok (.iconst 1, 1) := by decide +kernel
theorem dX9_escapes_10 : decode cX9_escapes 10 = .ok (.invokestatic 73, 3) := by decide +kernel
theorem dX9_escapes_13 : decode cX9_escapes 13 = .ok (.ifCond .ne 6, 3) := by decide +kernel
theorem dX9_escapes_16 : decode cX9_escapes 16 = .ok (.bipush (-5), 2) := by decide +kernel
theorem dX9_escapes_18 : decode cX9_escapes 18 = .ok (.ireturn, 1) := by decide +kernel
theorem dX9_escapes_19 : decode cX9_escapes 19 = .ok (.aload_n 0, 1) := by decide +kernel
theorem dX9_escapes_20 : decode cX9_escapes 20 = .ok (.getfield 21, 3) := by decide +kernel
theorem dX9_escapes_23 : decode cX9_escapes 23 = .ok (.aload_n 0, 1) := by decide +kernel
theorem dX9_escapes_24 : decode cX9_escapes 24 = .ok (.getfield 31, 3) := by decide +kernel
theorem dX9_escapes_27 : decode cX9_escapes 27 = .ok (.iload_n 1, 1) := by decide +kernel
theorem dX9_escapes_28 : decode cX9_escapes 28 = .ok (.invokevirtual 143, 3) := by decide +kernel
theorem dX9_escapes_31 : decode cX9_escapes 31 = .ok (.istore_n 3, 1) := by decide +kernel
theorem dX9_escapes_32 : decode cX9_escapes 32 = .ok (.iload_n 2, 1) := by decide +kernel
theorem dX9_escapes_33 : decode cX9_escapes 33 = .ok (.ifCond .ne 13, 3) := by decide +kernel
theorem dX9_escapes_36 : decode cX9_escapes 36 = .ok (.aload_n 0, 1) := by decide +kernel
theorem dX9_escapes_37 : decode cX9_escapes 37 = .ok (.getfield 31, 3) := by decide +kernel
theorem dX9_escapes_40 : decode cX9_escapes 40 = .ok (.getfield 158, 3) := by decide +kernel
theorem dX9_escapes_43 : decode cX9_escapes 43 = .ok (.goto 4, 3) := by decide +kernel
theorem dX9_escapes_46 : decode cX9_escapes 46 = .ok (.iload_n 3, 1) := by decide +kernel
theorem dX9_escapes_47 : decode cX9_escapes 47 = .ok (.ireturn, 1) := by decide +kernel
theorem dX9_likeliest_0 : decode cX9_likeliest 0 = .ok (.iconst 0, 1) := by decide +kernel
theorem dX9_likeliest_1 : decode cX9_likeliest 1 = .ok (.istore_n 1, 1) := by decide +kernel
theorem dX9_likeliest_2 : decode cX9_likeliest 2 = .ok (.lconst 0, 1) := by decide +kernel
theorem dX9_likeliest_3 : decode cX9_likeliest 3 = .ok (.lstore_n 2, 1) := by decide +kernel
theorem dX9_likeliest_4 : decode cX9_likeliest 4 = .ok (.lconst 1, 1) := by decide +kernel
theorem dX9_likeliest_5 : decode cX9_likeliest 5 = .ok (.lstore 4, 2) := by decide +kernel
theorem dX9_likeliest_7 : decode cX9_likeliest 7 = .ok (.iconst 0, 1) := by decide +kernel
theorem dX9_likeliest_8 : decode cX9_likeliest 8 = .ok (.istore 6, 2) := by decide +kernel
theorem dX9_likeliest_10 : decode cX9_likeliest 10 = .ok (.iload 6, 2) := by decide +kernel
theorem dX9_likeliest_12 : decode cX9_likeliest 12 = .ok (.iconst 4, 1) := by decide +kernel
theorem dX9_likeliest_13 : decode cX9_likeliest 13 = .ok (.if_icmp .ge 66, 3) := by decide +kernel
theorem dX9_likeliest_16 : decode cX9_likeliest 16 = .ok (.aload_n 0, 1) := by decide +kernel
theorem dX9_likeliest_17 : decode cX9_likeliest 17 = .ok (.getfield 21, 3) := by decide +kernel
theorem dX9_likeliest_20 : decode cX9_likeliest 20 = .ok (.aload_n 0, 1) := by decide +kernel
theorem dX9_likeliest_21 : decode cX9_likeliest 21 = .ok (.getfield 31, 3) := by decide +kernel
theorem dX9_likeliest_24 : decode cX9_likeliest 24 = .ok (.iload 6, 2) := by decide +kernel
theorem dX9_likeliest_26 : decode cX9_likeliest 26 = .ok (.invokevirtual 143, 3) := by decide +kernel
theorem dX9_likeliest_29 : decode cX9_likeliest 29 = .ok (.pop, 1) := by decide +kernel
theorem dX9_likeliest_30 : decode cX9_likeliest 30 = .ok (.aload_n 0, 1) := by decide +kernel
theorem dX9_likeliest_31 : decode cX9_likeliest 31 = .ok (.getfield 31, 3) := by decide +kernel
theorem dX9_likeliest_34 : decode cX9_likeliest 34 = .ok (.getfield 147, 3) := by decide +kernel
theorem dX9_likeliest_37 : decode cX9_likeliest 37 = .ok (.lload 4, 2) := by decide +kernel
theorem dX9_likeliest_39 : decode cX9_likeliest 39 = .ok (.lmul, 1) := by decide +kernel
theorem dX9_likeliest_40 : decode cX9_likeliest 40 = .ok (.lload_n 2, 1) := by decide +kernel
theorem dX9_likeliest_41 : decode cX9_likeliest 41 = .ok (.aload_n 0, 1) := by decide +kernel
theorem dX9_likeliest_42 : decode cX9_likeliest 42 = .ok (.getfield 31, 3) := by decide +kernel
theorem dX9_likeliest_45 : decode cX9_likeliest 45 = .ok (.getfield 151, 3) := by decide +kernel
theorem dX9_likeliest_48 : decode cX9_likeliest 48 = .ok (.lmul, 1) := by decide +kernel
theorem dX9_likeliest_49 : decode cX9_likeliest 49 = .ok (.lcmp, 1) := by decide +kernel
theorem dX9_likeliest_50 : decode cX9_likeliest 50 = .ok (.ifCond .le 23, 3) := by decide +kernel
theorem dX9_likeliest_53 : decode cX9_likeliest 53 = .ok (.iload 6, 2) := by decide +kernel
theorem dX9_likeliest_55 : decode cX9_likeliest 55 = .ok (.istore_n 1, 1) := by decide +kernel
theorem dX9_likeliest_56 : decode cX9_likeliest 56 = .ok (.aload_n 0, 1) := by decide +kernel
theorem dX9_likeliest_57 : decode cX9_likeliest 57 = .ok (.getfield 31, 3) := by decide +kernel
theorem dX9_likeliest_60 : decode cX9_likeliest 60 = .ok (.getfield 147, 3) := by decide +kernel
theorem dX9_likeliest_63 : decode cX9_likeliest 63 = .ok (.lstore_n 2, 1) := by decide +kernel
theorem dX9_likeliest_64 : decode cX9_likeliest 64 = .ok (.aload_n 0, 1) := by decide +kernel
theorem dX9_likeliest_65 : decode cX9_likeliest 65 = .ok (.getfield 31, 3) := by decide +kernel
theorem dX9_likeliest_68 : decode cX9_likeliest 68 = .ok (.getfield 151, 3) := by decide +kernel
theorem dX9_likeliest_71 : decode cX9_likeliest 71 = .ok (.lstore 4, 2) := by decide +kernel
theorem dX9_likeliest_73 : decode cX9_likeliest 73 = .ok (.iinc 6 1, 3) := by decide +kernel
theorem dX9_likeliest_76 : decode cX9_likeliest 76 = .ok (.goto (-66), 3) := by decide +kernel
theorem dX9_likeliest_79 : decode cX9_likeliest 79 = .ok (.iload_n 1, 1) := by decide +kernel
theorem dX9_likeliest_80 : decode cX9_likeliest 80 = .ok (.ireturn, 1) := by decide +kernel
theorem dX9_length_0 : decode cX9_length 0 = .ok (.aload_n 0, 1) := by decide +kernel
theorem dX9_length_1 : decode cX9_length 1 = .ok (.getfield 21, 3) := by decide +kernel
theorem dX9_length_4 : decode cX9_length 4 = .ok (.getfield 134, 3) := by decide +kernel
theorem dX9_length_7 : decode cX9_length 7 = .ok (.invokevirtual 161, 3) := by decide +kernel
theorem dX9_length_10 : decode cX9_length 10 = .ok (.ireturn, 1) := by decide +kernel
theorem dX9_best_0 : decode cX9_best 0 = .ok (.iconst 0, 1) := by decide +kernel
theorem dX9_best_1 : decode cX9_best 1 = .ok (.istore_n 1, 1) := by decide +kernel
theorem dX9_best_2 : decode cX9_best 2 = .ok (.iconst 0, 1) := by decide +kernel
theorem dX9_best_3 : decode cX9_best 3 = .ok (.istore_n 2, 1) := by decide +kernel
theorem dX9_best_4 : decode cX9_best 4 = .ok (.iconst 0, 1) := by decide +kernel
theorem dX9_best_5 : decode cX9_best 5 = .ok (.istore_n 3, 1) := by decide +kernel
theorem dX9_best_6 : decode cX9_best 6 = .ok (.iload_n 3, 1) := by decide +kernel
theorem dX9_best_7 : decode cX9_best 7 = .ok (.iconst 3, 1) := by decide +kernel
theorem dX9_best_8 : decode cX9_best 8 = .ok (.if_icmp .gt 71, 3) := by decide +kernel
theorem dX9_best_11 : decode cX9_best 11 = .ok (.aload_n 0, 1) := by decide +kernel
theorem dX9_best_12 : decode cX9_best 12 = .ok (.getfield 25, 3) := by decide +kernel
theorem dX9_best_15 : decode cX9_best 15 = .ok (.getfield 77, 3) := by decide +kernel
theorem dX9_best_18 : decode cX9_best 18 = .ok (.aload_n 0, 1) := by decide +kernel
theorem dX9_best_19 : decode cX9_best 19 = .ok (.getfield 21, 3) := by decide +kernel
theorem dX9_best_22 : decode cX9_best 22 = .ok (.getfield 77, 3) := by decide +kernel
theorem dX9_best_25 : decode cX9_best 25 = .ok (.invokevirtual 164, 3) := by decide +kernel
theorem dX9_best_28 : decode cX9_best 28 = .ok (.aload_n 0, 1) := by decide +kernel
theorem dX9_best_29 : decode cX9_best 29 = .ok (.getfield 25, 3) := by decide +kernel
theorem dX9_best_32 : decode cX9_best 32 = .ok (.getfield 77, 3) := by decide +kernel
theorem dX9_best_35 : decode cX9_best 35 = .ok (.iload_n 3, 1) := by decide +kernel
theorem dX9_best_36 : decode cX9_best 36 = .ok (.putfield 116, 3) := by decide +kernel
theorem dX9_best_39 : decode cX9_best 39 = .ok (.aload_n 0, 1) := by decide +kernel
theorem dX9_best_40 : decode cX9_best 40 = .ok (.getfield 25, 3) := by decide +kernel
theorem dX9_best_43 : decode cX9_best 43 = .ok (.invokevirtual 91, 3) := by decide +kernel
theorem dX9_best_46 : decode cX9_best 46 = .ok (.aload_n 0, 1) := by decide +kernel
theorem dX9_best_47 : decode cX9_best 47 = .ok (.getfield 25, 3) := by decide +kernel
theorem dX9_best_50 : decode cX9_best 50 = .ok (.getfield 134, 3) := by decide +kernel
theorem dX9_best_53 : decode cX9_best 53 = .ok (.invokevirtual 161, 3) := by decide +kernel
theorem dX9_best_56 : decode cX9_best 56 = .ok (.istore 4, 2) := by decide +kernel
theorem dX9_best_58 : decode cX9_best 58 = .ok (.iload_n 3, 1) := by decide +kernel
theorem dX9_best_59 : decode cX9_best 59 = .ok (.ifCond .eq 9, 3) := by decide +kernel
theorem dX9_best_62 : decode cX9_best 62 = .ok (.iload 4, 2) := by decide +kernel
theorem dX9_best_64 : decode cX9_best 64 = .ok (.iload_n 2, 1) := by decide +kernel
theorem dX9_best_65 : decode cX9_best 65 = .ok (.if_icmp .ge 8, 3) := by decide +kernel
theorem dX9_best_68 : decode cX9_best 68 = .ok (.iload_n 3, 1) := by decide +kernel
theorem dX9_best_69 : decode cX9_best 69 = .ok (.istore_n 1, 1) := by decide +kernel
theorem dX9_best_70 : decode cX9_best 70 = .ok (.iload 4, 2) := by decide +kernel
theorem dX9_best_72 : decode cX9_best 72 = .ok (.istore_n 2, 1) := by decide +kernel
theorem dX9_best_73 : decode cX9_best 73 = .ok (.iinc 3 1, 3) := by decide +kernel
theorem dX9_best_76 : decode cX9_best 76 = .ok (.goto (-70), 3) := by decide +kernel
theorem dX9_best_79 : decode cX9_best 79 = .ok (.iload_n 1, 1) := by decide +kernel
theorem dX9_best_80 : decode cX9_best 80 = .ok (.ireturn, 1) := by decide +kernel
theorem dX9_unpacked_0 : decode cX9_unpacked 0 = .ok (.iload_n 1, 1) := by decide +kernel
theorem dX9_unpacked_1 : decode cX9_unpacked 1 = .ok (.iconst 0, 1) := by decide +kernel
theorem dX9_unpacked_2 : decode cX9_unpacked 2 = .ok (.bipush 59, 2) := by decide +kernel
theorem dX9_unpacked_4 : decode cX9_unpacked 4 = .ok (.invokestatic 73, 3) := by decide +kernel
theorem dX9_unpacked_7 : decode cX9_unpacked 7 = .ok (.ifCond .ne 5, 3) := by decide +kernel
theorem dX9_unpacked_10 : decode cX9_unpacked 10 = .ok (.iconst (-1), 1) := by decide +kernel
theorem dX9_unpacked_11 : decode cX9_unpacked 11 = .ok (.ireturn, 1) := by decide +kernel
theorem dX9_unpacked_12 : decode cX9_unpacked 12 = .ok (.aload_n 0, 1) := by decide +kernel
theorem dX9_unpacked_13 : decode cX9_unpacked 13 = .ok (.bipush 48, 2) := by decide +kernel
theorem dX9_unpacked_15 : decode cX9_unpacked 15 = .ok (.iconst 2, 1) := by decide +kernel
theorem dX9_unpacked_16 : decode cX9_unpacked 16 = .ok (.invokevirtual 102, 3) := by decide +kernel
theorem dX9_unpacked_19 : decode cX9_unpacked 19 = .ok (.istore_n 2, 1) := by decide +kernel
theorem dX9_unpacked_20 : decode cX9_unpacked 20 = .ok (.iload_n 2, 1) := by decide +kernel
theorem dX9_unpacked_21 : decode cX9_unpacked 21 = .ok (.ifCond .lt 8, 3) := by decide +kernel
theorem dX9_unpacked_24 : decode cX9_unpacked 24 = .ok (.bipush (-10), 2) := by decide +kernel
theorem dX9_unpacked_26 : decode cX9_unpacked 26 = .ok (.iload_n 2, 1) := by decide +kernel
theorem dX9_unpacked_27 : decode cX9_unpacked 27 = .ok (.isub, 1) := by decide +kernel
theorem dX9_unpacked_28 : decode cX9_unpacked 28 = .ok (.ireturn, 1) := by decide +kernel
theorem dX9_unpacked_29 : decode cX9_unpacked 29 = .ok (.aload_n 0, 1) := by decide +kernel
theorem dX9_unpacked_30 : decode cX9_unpacked 30 = .ok (.getfield 25, 3) := by decide +kernel
theorem dX9_unpacked_33 : decode cX9_unpacked 33 = .ok (.aload_n 0, 1) := by decide +kernel
theorem dX9_unpacked_34 : decode cX9_unpacked 34 = .ok (.getfield 21, 3) := by decide +kernel
theorem dX9_unpacked_37 : decode cX9_unpacked 37 = .ok (.getfield 77, 3) := by decide +kernel
theorem dX9_unpacked_40 : decode cX9_unpacked 40 = .ok (.invokevirtual 167, 3) := by decide +kernel
theorem dX9_unpacked_43 : decode cX9_unpacked 43 = .ok (.iconst 0, 1) := by decide +kernel
theorem dX9_unpacked_44 : decode cX9_unpacked 44 = .ok (.istore_n 3, 1) := by decide +kernel
theorem dX9_unpacked_45 : decode cX9_unpacked 45 = .ok (.iload_n 3, 1) := by decide +kernel
theorem dX9_unpacked_46 : decode cX9_unpacked 46 = .ok (.aload_n 0, 1) := by decide +kernel
theorem dX9_unpacked_47 : decode cX9_unpacked 47 = .ok (.getfield 14, 3) := by decide +kernel
theorem dX9_unpacked_50 : decode cX9_unpacked 50 = .ok (.getfield 66, 3) := by decide +kernel
theorem dX9_unpacked_53 : decode cX9_unpacked 53 = .ok (.if_icmp .ge 33, 3) := by decide +kernel
theorem dX9_unpacked_56 : decode cX9_unpacked 56 = .ok (.aload_n 0, 1) := by decide +kernel
theorem dX9_unpacked_57 : decode cX9_unpacked 57 = .ok (.getfield 25, 3) := by decide +kernel
theorem dX9_unpacked_60 : decode cX9_unpacked 60 = .ok (.getfield 134, 3) := by decide +kernel
theorem dX9_unpacked_63 : decode cX9_unpacked 63 = .ok (.getfield 138, 3) := by decide +kernel
theorem dX9_unpacked_66 : decode cX9_unpacked 66 = .ok (.aload_n 0, 1) := by decide +kernel
theorem dX9_unpacked_67 : decode cX9_unpacked 67 = .ok (.getfield 14, 3) := by decide +kernel
theorem dX9_unpacked_70 : decode cX9_unpacked 70 = .ok (.iload_n 3, 1) := by decide +kernel
theorem dX9_unpacked_71 : decode cX9_unpacked 71 = .ok (.invokevirtual 106, 3) := by decide +kernel
theorem dX9_unpacked_74 : decode cX9_unpacked 74 = .ok (.bipush 48, 2) := by decide +kernel
theorem dX9_unpacked_76 : decode cX9_unpacked 76 = .ok (.isub, 1) := by decide +kernel
theorem dX9_unpacked_77 : decode cX9_unpacked 77 = .ok (.invokevirtual 63, 3) := by decide +kernel
theorem dX9_unpacked_80 : decode cX9_unpacked 80 = .ok (.iinc 3 1, 3) := by decide +kernel
theorem dX9_unpacked_83 : decode cX9_unpacked 83 = .ok (.goto (-38), 3) := by decide +kernel
theorem dX9_unpacked_86 : decode cX9_unpacked 86 = .ok (.aload_n 0, 1) := by decide +kernel
theorem dX9_unpacked_87 : decode cX9_unpacked 87 = .ok (.getfield 25, 3) := by decide +kernel
theorem dX9_unpacked_90 : decode cX9_unpacked 90 = .ok (.getfield 134, 3) := by decide +kernel
theorem dX9_unpacked_93 : decode cX9_unpacked 93 = .ok (.invokevirtual 170, 3) := by decide +kernel
theorem dX9_unpacked_96 : decode cX9_unpacked 96 = .ok (.iconst 0, 1) := by decide +kernel
theorem dX9_unpacked_97 : decode cX9_unpacked 97 = .ok (.istore_n 3, 1) := by decide +kernel
theorem dX9_unpacked_98 : decode cX9_unpacked 98 = .ok (.iload_n 3, 1) := by decide +kernel
theorem dX9_unpacked_99 : decode cX9_unpacked 99 = .ok (.iload_n 1, 1) := by decide +kernel
theorem dX9_unpacked_100 : decode cX9_unpacked 100 = .ok (.if_icmp .ge 17, 3) := by decide +kernel
theorem dX9_unpacked_103 : decode cX9_unpacked 103 = .ok (.aload_n 0, 1) := by decide +kernel
theorem dX9_unpacked_104 : decode cX9_unpacked 104 = .ok (.getfield 25, 3) := by decide +kernel
theorem dX9_unpacked_107 : decode cX9_unpacked 107 = .ok (.invokevirtual 173, 3) := by decide +kernel
theorem dX9_unpacked_110 : decode cX9_unpacked 110 = .ok (.pop, 1) := by decide +kernel
theorem dX9_unpacked_111 : decode cX9_unpacked 111 = .ok (.iinc 3 1, 3) := by decide +kernel
theorem dX9_unpacked_114 : decode cX9_unpacked 114 = .ok (.goto (-16), 3) := by decide +kernel
theorem dX9_unpacked_117 : decode cX9_unpacked 117 = .ok (.aload_n 0, 1) := by decide +kernel
theorem dX9_unpacked_118 : decode cX9_unpacked 118 = .ok (.getfield 25, 3) := by decide +kernel
theorem dX9_unpacked_121 : decode cX9_unpacked 121 = .ok (.invokevirtual 173, 3) := by decide +kernel
theorem dX9_unpacked_124 : decode cX9_unpacked 124 = .ok (.ireturn, 1) := by decide +kernel
theorem dX9_agrees_0 : decode cX9_agrees 0 = .ok (.aload_n 0, 1) := by decide +kernel
theorem dX9_agrees_1 : decode cX9_agrees 1 = .ok (.getfield 25, 3) := by decide +kernel
theorem dX9_agrees_4 : decode cX9_agrees 4 = .ok (.aload_n 0, 1) := by decide +kernel
theorem dX9_agrees_5 : decode cX9_agrees 5 = .ok (.getfield 21, 3) := by decide +kernel
theorem dX9_agrees_8 : decode cX9_agrees 8 = .ok (.getfield 77, 3) := by decide +kernel
theorem dX9_agrees_11 : decode cX9_agrees 11 = .ok (.invokevirtual 167, 3) := by decide +kernel
theorem dX9_agrees_14 : decode cX9_agrees 14 = .ok (.aload_n 0, 1) := by decide +kernel
theorem dX9_agrees_15 : decode cX9_agrees 15 = .ok (.getfield 25, 3) := by decide +kernel
theorem dX9_agrees_18 : decode cX9_agrees 18 = .ok (.getfield 134, 3) := by decide +kernel
theorem dX9_agrees_21 : decode cX9_agrees 21 = .ok (.aload_n 0, 1) := by decide +kernel
theorem dX9_agrees_22 : decode cX9_agrees 22 = .ok (.getfield 21, 3) := by decide +kernel
theorem dX9_agrees_25 : decode cX9_agrees 25 = .ok (.getfield 134, 3) := by decide +kernel
theorem dX9_agrees_28 : decode cX9_agrees 28 = .ok (.invokevirtual 176, 3) := by decide +kernel
theorem dX9_agrees_31 : decode cX9_agrees 31 = .ok (.aload_n 0, 1) := by decide +kernel
theorem dX9_agrees_32 : decode cX9_agrees 32 = .ok (.getfield 25, 3) := by decide +kernel
theorem dX9_agrees_35 : decode cX9_agrees 35 = .ok (.getfield 134, 3) := by decide +kernel
theorem dX9_agrees_38 : decode cX9_agrees 38 = .ok (.invokevirtual 170, 3) := by decide +kernel
theorem dX9_agrees_41 : decode cX9_agrees 41 = .ok (.aload_n 0, 1) := by decide +kernel
theorem dX9_agrees_42 : decode cX9_agrees 42 = .ok (.getfield 21, 3) := by decide +kernel
theorem dX9_agrees_45 : decode cX9_agrees 45 = .ok (.getfield 77, 3) := by decide +kernel
theorem dX9_agrees_48 : decode cX9_agrees 48 = .ok (.getfield 80, 3) := by decide +kernel
theorem dX9_agrees_51 : decode cX9_agrees 51 = .ok (.getfield 66, 3) := by decide +kernel
theorem dX9_agrees_54 : decode cX9_agrees 54 = .ok (.istore_n 1, 1) := by decide +kernel
theorem dX9_agrees_55 : decode cX9_agrees 55 = .ok (.iconst 0, 1) := by decide +kernel
theorem dX9_agrees_56 : decode cX9_agrees 56 = .ok (.istore_n 2, 1) := by decide +kernel
theorem dX9_agrees_57 : decode cX9_agrees 57 = .ok (.iload_n 2, 1) := by decide +kernel
theorem dX9_agrees_58 : decode cX9_agrees 58 = .ok (.iload_n 1, 1) := by decide +kernel
theorem dX9_agrees_59 : decode cX9_agrees 59 = .ok (.if_icmp .ge 35, 3) := by decide +kernel
theorem dX9_agrees_62 : decode cX9_agrees 62 = .ok (.aload_n 0, 1) := by decide +kernel
theorem dX9_agrees_63 : decode cX9_agrees 63 = .ok (.getfield 25, 3) := by decide +kernel
theorem dX9_agrees_66 : decode cX9_agrees 66 = .ok (.invokevirtual 173, 3) := by decide +kernel
theorem dX9_agrees_69 : decode cX9_agrees 69 = .ok (.aload_n 0, 1) := by decide +kernel
theorem dX9_agrees_70 : decode cX9_agrees 70 = .ok (.getfield 21, 3) := by decide +kernel
theorem dX9_agrees_73 : decode cX9_agrees 73 = .ok (.getfield 77, 3) := by decide +kernel
theorem dX9_agrees_76 : decode cX9_agrees 76 = .ok (.getfield 80, 3) := by decide +kernel
theorem dX9_agrees_79 : decode cX9_agrees 79 = .ok (.iload_n 2, 1) := by decide +kernel
theorem dX9_agrees_80 : decode cX9_agrees 80 = .ok (.invokevirtual 106, 3) := by decide +kernel
theorem dX9_agrees_83 : decode cX9_agrees 83 = .ok (.if_icmp .eq 5, 3) := by decide +kernel
theorem dX9_agrees_86 : decode cX9_agrees 86 = .ok (.iload_n 2, 1) := by decide +kernel
theorem dX9_agrees_87 : decode cX9_agrees 87 = .ok (.ireturn, 1) := by decide +kernel
theorem dX9_agrees_88 : decode cX9_agrees 88 = .ok (.iinc 2 1, 3) := by decide +kernel
theorem dX9_agrees_91 : decode cX9_agrees 91 = .ok (.goto (-34), 3) := by decide +kernel
theorem dX9_agrees_94 : decode cX9_agrees 94 = .ok (.iload_n 1, 1) := by decide +kernel
theorem dX9_agrees_95 : decode cX9_agrees 95 = .ok (.ireturn, 1) := by decide +kernel
theorem dX9_keep_0 : decode cX9_keep 0 = .ok (.iload_n 1, 1) := by decide +kernel
theorem dX9_keep_1 : decode cX9_keep 1 = .ok (.iconst 0, 1) := by decide +kernel
theorem dX9_keep_2 : decode cX9_keep 2 = .ok (.iconst 1, 1) := by decide +kernel
theorem dX9_keep_3 : decode cX9_keep 3 = .ok (.invokestatic 73, 3) := by decide +kernel
theorem dX9_keep_6 : decode cX9_keep 6 = .ok (.ifCond .ne 5, 3) := by decide +kernel
theorem dX9_keep_9 : decode cX9_keep 9 = .ok (.iconst (-1), 1) := by decide +kernel
theorem dX9_keep_10 : decode cX9_keep 10 = .ok (.ireturn, 1) := by decide +kernel
theorem dX9_keep_11 : decode cX9_keep 11 = .ok (.iload_n 1, 1) := by decide +kernel
theorem dX9_keep_12 : decode cX9_keep 12 = .ok (.ifCond .ne 25, 3) := by decide +kernel
theorem dX9_keep_15 : decode cX9_keep 15 = .ok (.aload_n 0, 1) := by decide +kernel
theorem dX9_keep_16 : decode cX9_keep 16 = .ok (.getfield 45, 3) := by decide +kernel
theorem dX9_keep_19 : decode cX9_keep 19 = .ok (.aload_n 0, 1) := by decide +kernel
theorem dX9_keep_20 : decode cX9_keep 20 = .ok (.getfield 21, 3) := by decide +kernel
theorem dX9_keep_23 : decode cX9_keep 23 = .ok (.getfield 77, 3) := by decide +kernel
theorem dX9_keep_26 : decode cX9_keep 26 = .ok (.invokevirtual 164, 3) := by decide +kernel
theorem dX9_keep_29 : decode cX9_keep 29 = .ok (.aload_n 0, 1) := by decide +kernel
theorem dX9_keep_30 : decode cX9_keep 30 = .ok (.iconst 1, 1) := by decide +kernel
theorem dX9_keep_31 : decode cX9_keep 31 = .ok (.putfield 52, 3) := by decide +kernel
theorem dX9_keep_34 : decode cX9_keep 34 = .ok (.goto 22, 3) := by decide +kernel
theorem dX9_keep_37 : decode cX9_keep 37 = .ok (.aload_n 0, 1) := by decide +kernel
theorem dX9_keep_38 : decode cX9_keep 38 = .ok (.getfield 49, 3) := by decide +kernel
theorem dX9_keep_41 : decode cX9_keep 41 = .ok (.aload_n 0, 1) := by decide +kernel
theorem dX9_keep_42 : decode cX9_keep 42 = .ok (.getfield 21, 3) := by decide +kernel
theorem dX9_keep_45 : decode cX9_keep 45 = .ok (.getfield 77, 3) := by decide +kernel
theorem dX9_keep_48 : decode cX9_keep 48 = .ok (.invokevirtual 164, 3) := by decide +kernel
theorem dX9_keep_51 : decode cX9_keep 51 = .ok (.aload_n 0, 1) := by decide +kernel
theorem dX9_keep_52 : decode cX9_keep 52 = .ok (.iconst 1, 1) := by decide +kernel
theorem dX9_keep_53 : decode cX9_keep 53 = .ok (.putfield 56, 3) := by decide +kernel
theorem dX9_keep_56 : decode cX9_keep 56 = .ok (.aload_n 0, 1) := by decide +kernel
theorem dX9_keep_57 : decode cX9_keep 57 = .ok (.getfield 21, 3) := by decide +kernel
theorem dX9_keep_60 : decode cX9_keep 60 = .ok (.getfield 77, 3) := by decide +kernel
theorem dX9_keep_63 : decode cX9_keep 63 = .ok (.getfield 80, 3) := by decide +kernel
theorem dX9_keep_66 : decode cX9_keep 66 = .ok (.getfield 66, 3) := by decide +kernel
theorem dX9_keep_69 : decode cX9_keep 69 = .ok (.ireturn, 1) := by decide +kernel
theorem dX9_back_0 : decode cX9_back 0 = .ok (.iload_n 1, 1) := by decide +kernel
theorem dX9_back_1 : decode cX9_back 1 = .ok (.iconst 0, 1) := by decide +kernel
theorem dX9_back_2 : decode cX9_back 2 = .ok (.iconst 1, 1) := by decide +kernel
theorem dX9_back_3 : decode cX9_back 3 = .ok (.invokestatic 73, 3) := by decide +kernel
theorem dX9_back_6 : decode cX9_back 6 = .ok (.ifCond .ne 5, 3) := by decide +kernel
theorem dX9_back_9 : decode cX9_back 9 = .ok (.iconst (-1), 1) := by decide +kernel
theorem dX9_back_10 : decode cX9_back 10 = .ok (.ireturn, 1) := by decide +kernel
theorem dX9_back_11 : decode cX9_back 11 = .ok (.iload_n 1, 1) := by decide +kernel
theorem dX9_back_12 : decode cX9_back 12 = .ok (.ifCond .ne 13, 3) := by decide +kernel
theorem dX9_back_15 : decode cX9_back 15 = .ok (.aload_n 0, 1) := by decide +kernel
theorem dX9_back_16 : decode cX9_back 16 = .ok (.getfield 52, 3) := by decide +kernel
theorem dX9_back_19 : decode cX9_back 19 = .ok (.ifCond .ne 16, 3) := by decide +kernel
theorem dX9_back_22 : decode cX9_back 22 = .ok (.goto 10, 3) := by decide +kernel
theorem dX9_back_25 : decode cX9_back 25 = .ok (.aload_n 0, 1) := by decide +kernel
theorem dX9_back_26 : decode cX9_back 26 = .ok (.getfield 56, 3) := by decide +kernel
theorem dX9_back_29 : decode cX9_back 29 = .ok (.ifCond .ne 6, 3) := by decide +kernel
theorem dX9_back_32 : decode cX9_back 32 = .ok (.bipush (-2), 2) := by decide +kernel
theorem dX9_back_34 : decode cX9_back 34 = .ok (.ireturn, 1) := by decide +kernel
theorem dX9_back_35 : decode cX9_back 35 = .ok (.aload_n 0, 1) := by decide +kernel
theorem dX9_back_36 : decode cX9_back 36 = .ok (.getfield 21, 3) := by decide +kernel
theorem dX9_back_39 : decode cX9_back 39 = .ok (.getfield 77, 3) := by decide +kernel
theorem dX9_back_42 : decode cX9_back 42 = .ok (.iload_n 1, 1) := by decide +kernel
theorem dX9_back_43 : decode cX9_back 43 = .ok (.ifCond .ne 10, 3) := by decide +kernel
theorem dX9_back_46 : decode cX9_back 46 = .ok (.aload_n 0, 1) := by decide +kernel
theorem dX9_back_47 : decode cX9_back 47 = .ok (.getfield 45, 3) := by decide +kernel
theorem dX9_back_50 : decode cX9_back 50 = .ok (.goto 7, 3) := by decide +kernel
theorem dX9_back_53 : decode cX9_back 53 = .ok (.aload_n 0, 1) := by decide +kernel
theorem dX9_back_54 : decode cX9_back 54 = .ok (.getfield 49, 3) := by decide +kernel
theorem dX9_back_57 : decode cX9_back 57 = .ok (.invokevirtual 164, 3) := by decide +kernel
theorem dX9_back_60 : decode cX9_back 60 = .ok (.aload_n 0, 1) := by decide +kernel
theorem dX9_back_61 : decode cX9_back 61 = .ok (.getfield 21, 3) := by decide +kernel
theorem dX9_back_64 : decode cX9_back 64 = .ok (.invokevirtual 91, 3) := by decide +kernel
theorem dX9_back_67 : decode cX9_back 67 = .ok (.aload_n 0, 1) := by decide +kernel
theorem dX9_back_68 : decode cX9_back 68 = .ok (.getfield 38, 3) := by decide +kernel
theorem dX9_back_71 : decode cX9_back 71 = .ok (.invokevirtual 180, 3) := by decide +kernel
theorem dX9_back_74 : decode cX9_back 74 = .ok (.aload_n 0, 1) := by decide +kernel
theorem dX9_back_75 : decode cX9_back 75 = .ok (.getfield 21, 3) := by decide +kernel
theorem dX9_back_78 : decode cX9_back 78 = .ok (.getfield 77, 3) := by decide +kernel
theorem dX9_back_81 : decode cX9_back 81 = .ok (.getfield 80, 3) := by decide +kernel
theorem dX9_back_84 : decode cX9_back 84 = .ok (.getfield 66, 3) := by decide +kernel
theorem dX9_back_87 : decode cX9_back 87 = .ok (.ireturn, 1) := by decide +kernel
theorem dX9_told_0 : decode cX9_told 0 = .ok (.iload_n 1, 1) := by decide +kernel
theorem dX9_told_1 : decode cX9_told 1 = .ok (.tableswitch 207 0 12 #[67, 81, 92, 100, 114, 125, 136, 147, 158, 169, 180, 191, 199], 67) := by decide +kernel
theorem dX9_told_68 : decode cX9_told 68 = .ok (.aload_n 0, 1) := by decide +kernel
theorem dX9_told_69 : decode cX9_told 69 = .ok (.getfield 21, 3) := by decide +kernel
theorem dX9_told_72 : decode cX9_told 72 = .ok (.getfield 77, 3) := by decide +kernel
theorem dX9_told_75 : decode cX9_told 75 = .ok (.getfield 80, 3) := by decide +kernel
theorem dX9_told_78 : decode cX9_told 78 = .ok (.getfield 66, 3) := by decide +kernel
theorem dX9_told_81 : decode cX9_told 81 = .ok (.ireturn, 1) := by decide +kernel
theorem dX9_told_82 : decode cX9_told 82 = .ok (.aload_n 0, 1) := by decide +kernel
theorem dX9_told_83 : decode cX9_told 83 = .ok (.getfield 21, 3) := by decide +kernel
theorem dX9_told_86 : decode cX9_told 86 = .ok (.getfield 126, 3) := by decide +kernel
theorem dX9_told_89 : decode cX9_told 89 = .ok (.getfield 183, 3) := by decide +kernel
theorem dX9_told_92 : decode cX9_told 92 = .ok (.ireturn, 1) := by decide +kernel
theorem dX9_told_93 : decode cX9_told 93 = .ok (.aload_n 0, 1) := by decide +kernel
theorem dX9_told_94 : decode cX9_told 94 = .ok (.getfield 21, 3) := by decide +kernel
theorem dX9_told_97 : decode cX9_told 97 = .ok (.getfield 186, 3) := by decide +kernel
theorem dX9_told_100 : decode cX9_told 100 = .ok (.ireturn, 1) := by decide +kernel
theorem dX9_told_101 : decode cX9_told 101 = .ok (.aload_n 0, 1) := by decide +kernel
theorem dX9_told_102 : decode cX9_told 102 = .ok (.getfield 21, 3) := by decide +kernel
theorem dX9_told_105 : decode cX9_told 105 = .ok (.getfield 134, 3) := by decide +kernel
theorem dX9_told_108 : decode cX9_told 108 = .ok (.getfield 138, 3) := by decide +kernel
theorem dX9_told_111 : decode cX9_told 111 = .ok (.getfield 66, 3) := by decide +kernel
theorem dX9_told_114 : decode cX9_told 114 = .ok (.ireturn, 1) := by decide +kernel
theorem dX9_told_115 : decode cX9_told 115 = .ok (.aload_n 0, 1) := by decide +kernel
theorem dX9_told_116 : decode cX9_told 116 = .ok (.getfield 21, 3) := by decide +kernel
theorem dX9_told_119 : decode cX9_told 119 = .ok (.getfield 134, 3) := by decide +kernel
theorem dX9_told_122 : decode cX9_told 122 = .ok (.getfield 189, 3) := by decide +kernel
theorem dX9_told_125 : decode cX9_told 125 = .ok (.ireturn, 1) := by decide +kernel
theorem dX9_told_126 : decode cX9_told 126 = .ok (.aload_n 0, 1) := by decide +kernel
theorem dX9_told_127 : decode cX9_told 127 = .ok (.getfield 21, 3) := by decide +kernel
theorem dX9_told_130 : decode cX9_told 130 = .ok (.getfield 134, 3) := by decide +kernel
theorem dX9_told_133 : decode cX9_told 133 = .ok (.getfield 192, 3) := by decide +kernel
theorem dX9_told_136 : decode cX9_told 136 = .ok (.ireturn, 1) := by decide +kernel
theorem dX9_told_137 : decode cX9_told 137 = .ok (.aload_n 0, 1) := by decide +kernel
theorem dX9_told_138 : decode cX9_told 138 = .ok (.getfield 21, 3) := by decide +kernel
theorem dX9_told_141 : decode cX9_told 141 = .ok (.getfield 134, 3) := by decide +kernel
theorem dX9_told_144 : decode cX9_told 144 = .ok (.getfield 195, 3) := by decide +kernel
theorem dX9_told_147 : decode cX9_told 147 = .ok (.ireturn, 1) := by decide +kernel
theorem dX9_told_148 : decode cX9_told 148 = .ok (.aload_n 0, 1) := by decide +kernel
theorem dX9_told_149 : decode cX9_told 149 = .ok (.getfield 21, 3) := by decide +kernel
theorem dX9_told_152 : decode cX9_told 152 = .ok (.getfield 77, 3) := by decide +kernel
theorem dX9_told_155 : decode cX9_told 155 = .ok (.getfield 116, 3) := by decide +kernel
theorem dX9_told_158 : decode cX9_told 158 = .ok (.ireturn, 1) := by decide +kernel
theorem dX9_told_159 : decode cX9_told 159 = .ok (.aload_n 0, 1) := by decide +kernel
theorem dX9_told_160 : decode cX9_told 160 = .ok (.getfield 21, 3) := by decide +kernel
theorem dX9_told_163 : decode cX9_told 163 = .ok (.getfield 77, 3) := by decide +kernel
theorem dX9_told_166 : decode cX9_told 166 = .ok (.getfield 198, 3) := by decide +kernel
theorem dX9_told_169 : decode cX9_told 169 = .ok (.ireturn, 1) := by decide +kernel
theorem dX9_told_170 : decode cX9_told 170 = .ok (.aload_n 0, 1) := by decide +kernel
theorem dX9_told_171 : decode cX9_told 171 = .ok (.getfield 21, 3) := by decide +kernel
theorem dX9_told_174 : decode cX9_told 174 = .ok (.getfield 77, 3) := by decide +kernel
theorem dX9_told_177 : decode cX9_told 177 = .ok (.getfield 201, 3) := by decide +kernel
theorem dX9_told_180 : decode cX9_told 180 = .ok (.ireturn, 1) := by decide +kernel
theorem dX9_told_181 : decode cX9_told 181 = .ok (.aload_n 0, 1) := by decide +kernel
theorem dX9_told_182 : decode cX9_told 182 = .ok (.getfield 21, 3) := by decide +kernel
theorem dX9_told_185 : decode cX9_told 185 = .ok (.getfield 77, 3) := by decide +kernel
theorem dX9_told_188 : decode cX9_told 188 = .ok (.getfield 204, 3) := by decide +kernel
theorem dX9_told_191 : decode cX9_told 191 = .ok (.ireturn, 1) := by decide +kernel
theorem dX9_told_192 : decode cX9_told 192 = .ok (.aload_n 0, 1) := by decide +kernel
theorem dX9_told_193 : decode cX9_told 193 = .ok (.getfield 14, 3) := by decide +kernel
theorem dX9_told_196 : decode cX9_told 196 = .ok (.getfield 66, 3) := by decide +kernel
theorem dX9_told_199 : decode cX9_told 199 = .ok (.ireturn, 1) := by decide +kernel
theorem dX9_told_200 : decode cX9_told 200 = .ok (.aload_n 0, 1) := by decide +kernel
theorem dX9_told_201 : decode cX9_told 201 = .ok (.getfield 38, 3) := by decide +kernel
theorem dX9_told_204 : decode cX9_told 204 = .ok (.getfield 110, 3) := by decide +kernel
theorem dX9_told_207 : decode cX9_told 207 = .ok (.ireturn, 1) := by decide +kernel
theorem dX9_told_208 : decode cX9_told 208 = .ok (.iconst (-1), 1) := by decide +kernel
theorem dX9_told_209 : decode cX9_told 209 = .ok (.ireturn, 1) := by decide +kernel
theorem dX9_isWithin_0 : decode cX9_isWithin 0 = .ok (.iload_n 0, 1) := by decide +kernel
theorem dX9_isWithin_1 : decode cX9_isWithin 1 = .ok (.iload_n 1, 1) := by decide +kernel
theorem dX9_isWithin_2 : decode cX9_isWithin 2 = .ok (.if_icmp .lt 12, 3) := by decide +kernel
theorem dX9_isWithin_5 : decode cX9_isWithin 5 = .ok (.iload_n 0, 1) := by decide +kernel
theorem dX9_isWithin_6 : decode cX9_isWithin 6 = .ok (.iload_n 2, 1) := by decide +kernel
theorem dX9_isWithin_7 : decode cX9_isWithin 7 = .ok (.if_icmp .gt 7, 3) := by decide +kernel
theorem dX9_isWithin_10 : decode cX9_isWithin 10 = .ok (.iconst 1, 1) := by decide +kernel
theorem dX9_isWithin_11 : decode cX9_isWithin 11 = .ok (.goto 4, 3) := by decide +kernel
theorem dX9_isWithin_14 : decode cX9_isWithin 14 = .ok (.iconst 0, 1) := by decide +kernel
theorem dX9_isWithin_15 : decode cX9_isWithin 15 = .ok (.ireturn, 1) := by decide +kernel
theorem dX9_isSign_0 : decode cX9_isSign 0 = .ok (.iload_n 0, 1) := by decide +kernel
theorem dX9_isSign_1 : decode cX9_isSign 1 = .ok (.iconst 0, 1) := by decide +kernel
theorem dX9_isSign_2 : decode cX9_isSign 2 = .ok (.iconst 3, 1) := by decide +kernel
theorem dX9_isSign_3 : decode cX9_isSign 3 = .ok (.invokestatic 73, 3) := by decide +kernel
theorem dX9_isSign_6 : decode cX9_isSign 6 = .ok (.ireturn, 1) := by decide +kernel
theorem dX9_isContextSign_0 : decode cX9_isContextSign 0 = .ok (.iload_n 1, 1) := by decide +kernel
theorem dX9_isContextSign_1 : decode cX9_isContextSign 1 = .ok (.ifCond .eq 10, 3) := by decide +kernel
theorem dX9_isContextSign_4 : decode cX9_isContextSign 4 = .ok (.iload_n 0, 1) := by decide +kernel
theorem dX9_isContextSign_5 : decode cX9_isContextSign 5 = .ok (.invokestatic 94, 3) := by decide +kernel
theorem dX9_isContextSign_8 : decode cX9_isContextSign 8 = .ok (.goto 12, 3) := by decide +kernel
theorem dX9_isContextSign_11 : decode cX9_isContextSign 11 = .ok (.iload_n 0, 1) := by decide +kernel
theorem dX9_isContextSign_12 : decode cX9_isContextSign 12 = .ok (.ifCond .ne 7, 3) := by decide +kernel
theorem dX9_isContextSign_15 : decode cX9_isContextSign 15 = .ok (.iconst 1, 1) := by decide +kernel
theorem dX9_isContextSign_16 : decode cX9_isContextSign 16 = .ok (.goto 4, 3) := by decide +kernel
theorem dX9_isContextSign_19 : decode cX9_isContextSign 19 = .ok (.iconst 0, 1) := by decide +kernel
theorem dX9_isContextSign_20 : decode cX9_isContextSign 20 = .ok (.ireturn, 1) := by decide +kernel
theorem dX9_longerContext_0 : decode cX9_longerContext 0 = .ok (.iconst 4, 1) := by decide +kernel
theorem dX9_longerContext_1 : decode cX9_longerContext 1 = .ok (.iload_n 0, 1) := by decide +kernel
theorem dX9_longerContext_2 : decode cX9_longerContext 2 = .ok (.imul, 1) := by decide +kernel
theorem dX9_longerContext_3 : decode cX9_longerContext 3 = .ok (.iconst 1, 1) := by decide +kernel
theorem dX9_longerContext_4 : decode cX9_longerContext 4 = .ok (.iadd, 1) := by decide +kernel
theorem dX9_longerContext_5 : decode cX9_longerContext 5 = .ok (.iload_n 1, 1) := by decide +kernel
theorem dX9_longerContext_6 : decode cX9_longerContext 6 = .ok (.iadd, 1) := by decide +kernel
theorem dX9_longerContext_7 : decode cX9_longerContext 7 = .ok (.ireturn, 1) := by decide +kernel
theorem dX9_firstLetterOutside_0 : decode cX9_firstLetterOutside 0 = .ok (.iconst 0, 1) := by decide +kernel
theorem dX9_firstLetterOutside_1 : decode cX9_firstLetterOutside 1 = .ok (.istore_n 3, 1) := by decide +kernel
theorem dX9_firstLetterOutside_2 : decode cX9_firstLetterOutside 2 = .ok (.iload_n 3, 1) := by decide +kernel
theorem dX9_firstLetterOutside_3 : decode cX9_firstLetterOutside 3 = .ok (.aload_n 0, 1) := by decide +kernel
theorem dX9_firstLetterOutside_4 : decode cX9_firstLetterOutside 4 = .ok (.getfield 14, 3) := by decide +kernel
theorem dX9_firstLetterOutside_7 : decode cX9_firstLetterOutside 7 = .ok (.getfield 66, 3) := by decide +kernel
theorem dX9_firstLetterOutside_10 : decode cX9_firstLetterOutside 10 = .ok (.if_icmp .ge 31, 3) := by decide +kernel
theorem dX9_firstLetterOutside_13 : decode cX9_firstLetterOutside 13 = .ok (.aload_n 0, 1) := by decide +kernel
theorem dX9_firstLetterOutside_14 : decode cX9_firstLetterOutside 14 = .ok (.getfield 14, 3) := by decide +kernel
theorem dX9_firstLetterOutside_17 : decode cX9_firstLetterOutside 17 = .ok (.iload_n 3, 1) := by decide +kernel
theorem dX9_firstLetterOutside_18 : decode cX9_firstLetterOutside 18 = .ok (.invokevirtual 106, 3) := by decide +kernel
theorem dX9_firstLetterOutside_21 : decode cX9_firstLetterOutside 21 = .ok (.iload_n 1, 1) := by decide +kernel
theorem dX9_firstLetterOutside_22 : decode cX9_firstLetterOutside 22 = .ok (.iload_n 1, 1) := by decide +kernel
theorem dX9_firstLetterOutside_23 : decode cX9_firstLetterOutside 23 = .ok (.iload_n 2, 1) := by decide +kernel
theorem dX9_firstLetterOutside_24 : decode cX9_firstLetterOutside 24 = .ok (.iadd, 1) := by decide +kernel
theorem dX9_firstLetterOutside_25 : decode cX9_firstLetterOutside 25 = .ok (.iconst 1, 1) := by decide +kernel
theorem dX9_firstLetterOutside_26 : decode cX9_firstLetterOutside 26 = .ok (.isub, 1) := by decide +kernel
theorem dX9_firstLetterOutside_27 : decode cX9_firstLetterOutside 27 = .ok (.invokestatic 73, 3) := by decide +kernel
theorem dX9_firstLetterOutside_30 : decode cX9_firstLetterOutside 30 = .ok (.ifCond .ne 5, 3) := by decide +kernel
theorem dX9_firstLetterOutside_33 : decode cX9_firstLetterOutside 33 = .ok (.iload_n 3, 1) := by decide +kernel
theorem dX9_firstLetterOutside_34 : decode cX9_firstLetterOutside 34 = .ok (.ireturn, 1) := by decide +kernel
theorem dX9_firstLetterOutside_35 : decode cX9_firstLetterOutside 35 = .ok (.iinc 3 1, 3) := by decide +kernel
theorem dX9_firstLetterOutside_38 : decode cX9_firstLetterOutside 38 = .ok (.goto (-36), 3) := by decide +kernel
theorem dX9_firstLetterOutside_41 : decode cX9_firstLetterOutside 41 = .ok (.iconst (-1), 1) := by decide +kernel
theorem dX9_firstLetterOutside_42 : decode cX9_firstLetterOutside 42 = .ok (.ireturn, 1) := by decide +kernel
theorem dJ6_bitCount_0f7a4_0 : decode cJ6_bitCount_0f7a4 0 = .ok (.iload_n 0, 1) := by decide +kernel
theorem dJ6_bitCount_0f7a4_1 : decode cJ6_bitCount_0f7a4 1 = .ok (.iload_n 0, 1) := by decide +kernel
theorem dJ6_bitCount_0f7a4_2 : decode cJ6_bitCount_0f7a4 2 = .ok (.iconst 1, 1) := by decide +kernel
theorem dJ6_bitCount_0f7a4_3 : decode cJ6_bitCount_0f7a4 3 = .ok (.iushr, 1) := by decide +kernel
theorem dJ6_bitCount_0f7a4_4 : decode cJ6_bitCount_0f7a4 4 = .ok (.ldc_w 265, 3) := by decide +kernel
theorem dJ6_bitCount_0f7a4_7 : decode cJ6_bitCount_0f7a4 7 = .ok (.iand, 1) := by decide +kernel
theorem dJ6_bitCount_0f7a4_8 : decode cJ6_bitCount_0f7a4 8 = .ok (.isub, 1) := by decide +kernel
theorem dJ6_bitCount_0f7a4_9 : decode cJ6_bitCount_0f7a4 9 = .ok (.istore_n 0, 1) := by decide +kernel
theorem dJ6_bitCount_0f7a4_10 : decode cJ6_bitCount_0f7a4 10 = .ok (.iload_n 0, 1) := by decide +kernel
theorem dJ6_bitCount_0f7a4_11 : decode cJ6_bitCount_0f7a4 11 = .ok (.ldc_w 266, 3) := by decide +kernel
theorem dJ6_bitCount_0f7a4_14 : decode cJ6_bitCount_0f7a4 14 = .ok (.iand, 1) := by decide +kernel
theorem dJ6_bitCount_0f7a4_15 : decode cJ6_bitCount_0f7a4 15 = .ok (.iload_n 0, 1) := by decide +kernel
theorem dJ6_bitCount_0f7a4_16 : decode cJ6_bitCount_0f7a4 16 = .ok (.iconst 2, 1) := by decide +kernel
theorem dJ6_bitCount_0f7a4_17 : decode cJ6_bitCount_0f7a4 17 = .ok (.iushr, 1) := by decide +kernel
theorem dJ6_bitCount_0f7a4_18 : decode cJ6_bitCount_0f7a4 18 = .ok (.ldc_w 266, 3) := by decide +kernel
theorem dJ6_bitCount_0f7a4_21 : decode cJ6_bitCount_0f7a4 21 = .ok (.iand, 1) := by decide +kernel
theorem dJ6_bitCount_0f7a4_22 : decode cJ6_bitCount_0f7a4 22 = .ok (.iadd, 1) := by decide +kernel
theorem dJ6_bitCount_0f7a4_23 : decode cJ6_bitCount_0f7a4 23 = .ok (.istore_n 0, 1) := by decide +kernel
theorem dJ6_bitCount_0f7a4_24 : decode cJ6_bitCount_0f7a4 24 = .ok (.iload_n 0, 1) := by decide +kernel
theorem dJ6_bitCount_0f7a4_25 : decode cJ6_bitCount_0f7a4 25 = .ok (.iload_n 0, 1) := by decide +kernel
theorem dJ6_bitCount_0f7a4_26 : decode cJ6_bitCount_0f7a4 26 = .ok (.iconst 4, 1) := by decide +kernel
theorem dJ6_bitCount_0f7a4_27 : decode cJ6_bitCount_0f7a4 27 = .ok (.iushr, 1) := by decide +kernel
theorem dJ6_bitCount_0f7a4_28 : decode cJ6_bitCount_0f7a4 28 = .ok (.iadd, 1) := by decide +kernel
theorem dJ6_bitCount_0f7a4_29 : decode cJ6_bitCount_0f7a4 29 = .ok (.ldc_w 267, 3) := by decide +kernel
theorem dJ6_bitCount_0f7a4_32 : decode cJ6_bitCount_0f7a4 32 = .ok (.iand, 1) := by decide +kernel
theorem dJ6_bitCount_0f7a4_33 : decode cJ6_bitCount_0f7a4 33 = .ok (.istore_n 0, 1) := by decide +kernel
theorem dJ6_bitCount_0f7a4_34 : decode cJ6_bitCount_0f7a4 34 = .ok (.iload_n 0, 1) := by decide +kernel
theorem dJ6_bitCount_0f7a4_35 : decode cJ6_bitCount_0f7a4 35 = .ok (.iload_n 0, 1) := by decide +kernel
theorem dJ6_bitCount_0f7a4_36 : decode cJ6_bitCount_0f7a4 36 = .ok (.bipush 8, 2) := by decide +kernel
theorem dJ6_bitCount_0f7a4_38 : decode cJ6_bitCount_0f7a4 38 = .ok (.iushr, 1) := by decide +kernel
theorem dJ6_bitCount_0f7a4_39 : decode cJ6_bitCount_0f7a4 39 = .ok (.iadd, 1) := by decide +kernel
theorem dJ6_bitCount_0f7a4_40 : decode cJ6_bitCount_0f7a4 40 = .ok (.istore_n 0, 1) := by decide +kernel
theorem dJ6_bitCount_0f7a4_41 : decode cJ6_bitCount_0f7a4 41 = .ok (.iload_n 0, 1) := by decide +kernel
theorem dJ6_bitCount_0f7a4_42 : decode cJ6_bitCount_0f7a4 42 = .ok (.iload_n 0, 1) := by decide +kernel
theorem dJ6_bitCount_0f7a4_43 : decode cJ6_bitCount_0f7a4 43 = .ok (.bipush 16, 2) := by decide +kernel
theorem dJ6_bitCount_0f7a4_45 : decode cJ6_bitCount_0f7a4 45 = .ok (.iushr, 1) := by decide +kernel
theorem dJ6_bitCount_0f7a4_46 : decode cJ6_bitCount_0f7a4 46 = .ok (.iadd, 1) := by decide +kernel
theorem dJ6_bitCount_0f7a4_47 : decode cJ6_bitCount_0f7a4 47 = .ok (.istore_n 0, 1) := by decide +kernel
theorem dJ6_bitCount_0f7a4_48 : decode cJ6_bitCount_0f7a4 48 = .ok (.iload_n 0, 1) := by decide +kernel
theorem dJ6_bitCount_0f7a4_49 : decode cJ6_bitCount_0f7a4 49 = .ok (.bipush 63, 2) := by decide +kernel
theorem dJ6_bitCount_0f7a4_51 : decode cJ6_bitCount_0f7a4 51 = .ok (.iand, 1) := by decide +kernel
theorem dJ6_bitCount_0f7a4_52 : decode cJ6_bitCount_0f7a4 52 = .ok (.ireturn, 1) := by decide +kernel
theorem dJ9_max_7cf53_0 : decode cJ9_max_7cf53 0 = .ok (.iload_n 0, 1) := by decide +kernel
theorem dJ9_max_7cf53_1 : decode cJ9_max_7cf53 1 = .ok (.iload_n 1, 1) := by decide +kernel
theorem dJ9_max_7cf53_2 : decode cJ9_max_7cf53 2 = .ok (.if_icmp .lt 7, 3) := by decide +kernel
theorem dJ9_max_7cf53_5 : decode cJ9_max_7cf53 5 = .ok (.iload_n 0, 1) := by decide +kernel
theorem dJ9_max_7cf53_6 : decode cJ9_max_7cf53 6 = .ok (.goto 4, 3) := by decide +kernel
theorem dJ9_max_7cf53_9 : decode cJ9_max_7cf53 9 = .ok (.iload_n 1, 1) := by decide +kernel
theorem dJ9_max_7cf53_10 : decode cJ9_max_7cf53 10 = .ok (.ireturn, 1) := by decide +kernel
theorem dJ9_min_7cf53_0 : decode cJ9_min_7cf53 0 = .ok (.iload_n 0, 1) := by decide +kernel
theorem dJ9_min_7cf53_1 : decode cJ9_min_7cf53 1 = .ok (.iload_n 1, 1) := by decide +kernel
theorem dJ9_min_7cf53_2 : decode cJ9_min_7cf53 2 = .ok (.if_icmp .gt 7, 3) := by decide +kernel
theorem dJ9_min_7cf53_5 : decode cJ9_min_7cf53 5 = .ok (.iload_n 0, 1) := by decide +kernel
theorem dJ9_min_7cf53_6 : decode cJ9_min_7cf53 6 = .ok (.goto 4, 3) := by decide +kernel
theorem dJ9_min_7cf53_9 : decode cJ9_min_7cf53 9 = .ok (.iload_n 1, 1) := by decide +kernel
theorem dJ9_min_7cf53_10 : decode cJ9_min_7cf53 10 = .ok (.ireturn, 1) := by decide +kernel
