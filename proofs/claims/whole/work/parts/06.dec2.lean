theorem dX3_allKeys_12 : decode cX3_allKeys 12 = .ok (.getfield 16, 3) := by decide +kernel
theorem dX3_allKeys_15 : decode cX3_allKeys 15 = .ok (.aload_n 0, 1) := by decide +kernel
theorem dX3_allKeys_16 : decode cX3_allKeys 16 = .ok (.getfield 16, 3) := by decide +kernel
theorem dX3_allKeys_19 : decode cX3_allKeys 19 = .ok (.iload_n 2, 1) := by decide +kernel
theorem dX3_allKeys_20 : decode cX3_allKeys 20 = .ok (.invokevirtual 123, 3) := by decide +kernel
theorem dX3_allKeys_23 : decode cX3_allKeys 23 = .ok (.invokevirtual 147, 3) := by decide +kernel
theorem dX3_allKeys_26 : decode cX3_allKeys 26 = .ok (.iadd, 1) := by decide +kernel
theorem dX3_allKeys_27 : decode cX3_allKeys 27 = .ok (.istore_n 1, 1) := by decide +kernel
theorem dX3_allKeys_28 : decode cX3_allKeys 28 = .ok (.iinc 2 1, 3) := by decide +kernel
theorem dX3_allKeys_31 : decode cX3_allKeys 31 = .ok (.goto (-27), 3) := by decide +kernel
theorem dX3_allKeys_34 : decode cX3_allKeys 34 = .ok (.iload_n 1, 1) := by decide +kernel
theorem dX3_allKeys_35 : decode cX3_allKeys 35 = .ok (.ireturn, 1) := by decide +kernel
theorem dX3_seedInUse_0 : decode cX3_seedInUse 0 = .ok (.aload_n 1, 1) := by decide +kernel
theorem dX3_seedInUse_1 : decode cX3_seedInUse 1 = .ok (.invokevirtual 64, 3) := by decide +kernel
theorem dX3_seedInUse_4 : decode cX3_seedInUse 4 = .ok (.istore_n 2, 1) := by decide +kernel
theorem dX3_seedInUse_5 : decode cX3_seedInUse 5 = .ok (.iload_n 2, 1) := by decide +kernel
theorem dX3_seedInUse_6 : decode cX3_seedInUse 6 = .ok (.ifCond .lt 21, 3) := by decide +kernel
theorem dX3_seedInUse_9 : decode cX3_seedInUse 9 = .ok (.iload_n 2, 1) := by decide +kernel
theorem dX3_seedInUse_10 : decode cX3_seedInUse 10 = .ok (.aload_n 0, 1) := by decide +kernel
theorem dX3_seedInUse_11 : decode cX3_seedInUse 11 = .ok (.getfield 9, 3) := by decide +kernel
theorem dX3_seedInUse_14 : decode cX3_seedInUse 14 = .ok (.arraylength, 1) := by decide +kernel
theorem dX3_seedInUse_15 : decode cX3_seedInUse 15 = .ok (.if_icmp .ge 12, 3) := by decide +kernel
theorem dX3_seedInUse_18 : decode cX3_seedInUse 18 = .ok (.aload_n 0, 1) := by decide +kernel
theorem dX3_seedInUse_19 : decode cX3_seedInUse 19 = .ok (.getfield 9, 3) := by decide +kernel
theorem dX3_seedInUse_22 : decode cX3_seedInUse 22 = .ok (.iload_n 2, 1) := by decide +kernel
theorem dX3_seedInUse_23 : decode cX3_seedInUse 23 = .ok (.iaload, 1) := by decide +kernel
theorem dX3_seedInUse_24 : decode cX3_seedInUse 24 = .ok (.goto 4, 3) := by decide +kernel
theorem dX3_seedInUse_27 : decode cX3_seedInUse 27 = .ok (.iconst 0, 1) := by decide +kernel
theorem dX3_seedInUse_28 : decode cX3_seedInUse 28 = .ok (.ireturn, 1) := by decide +kernel
theorem dX3_homeBy_0 : decode cX3_homeBy 0 = .ok (.ldc 164, 2) := by decide +kernel
theorem dX3_homeBy_2 : decode cX3_homeBy 2 = .ok (.iload_n 1, 1) := by decide +kernel
theorem dX3_homeBy_3 : decode cX3_homeBy 3 = .ok (.imul, 1) := by decide +kernel
theorem dX3_homeBy_4 : decode cX3_homeBy 4 = .ok (.iload_n 0, 1) := by decide +kernel
theorem dX3_homeBy_5 : decode cX3_homeBy 5 = .ok (.iadd, 1) := by decide +kernel
theorem dX3_homeBy_6 : decode cX3_homeBy 6 = .ok (.istore_n 3, 1) := by decide +kernel
theorem dX3_homeBy_7 : decode cX3_homeBy 7 = .ok (.iload_n 3, 1) := by decide +kernel
theorem dX3_homeBy_8 : decode cX3_homeBy 8 = .ok (.iload_n 3, 1) := by decide +kernel
theorem dX3_homeBy_9 : decode cX3_homeBy 9 = .ok (.bipush 15, 2) := by decide +kernel
theorem dX3_homeBy_11 : decode cX3_homeBy 11 = .ok (.iushr, 1) := by decide +kernel
theorem dX3_homeBy_12 : decode cX3_homeBy 12 = .ok (.ixor, 1) := by decide +kernel
theorem dX3_homeBy_13 : decode cX3_homeBy 13 = .ok (.istore_n 3, 1) := by decide +kernel
theorem dX3_homeBy_14 : decode cX3_homeBy 14 = .ok (.iload_n 3, 1) := by decide +kernel
theorem dX3_homeBy_15 : decode cX3_homeBy 15 = .ok (.ldc 165, 2) := by decide +kernel
theorem dX3_homeBy_17 : decode cX3_homeBy 17 = .ok (.imul, 1) := by decide +kernel
theorem dX3_homeBy_18 : decode cX3_homeBy 18 = .ok (.istore 4, 2) := by decide +kernel
theorem dX3_homeBy_20 : decode cX3_homeBy 20 = .ok (.iload 4, 2) := by decide +kernel
theorem dX3_homeBy_22 : decode cX3_homeBy 22 = .ok (.iload 4, 2) := by decide +kernel
theorem dX3_homeBy_24 : decode cX3_homeBy 24 = .ok (.bipush 13, 2) := by decide +kernel
theorem dX3_homeBy_26 : decode cX3_homeBy 26 = .ok (.iushr, 1) := by decide +kernel
theorem dX3_homeBy_27 : decode cX3_homeBy 27 = .ok (.ixor, 1) := by decide +kernel
theorem dX3_homeBy_28 : decode cX3_homeBy 28 = .ok (.bipush 7, 2) := by decide +kernel
theorem dX3_homeBy_30 : decode cX3_homeBy 30 = .ok (.iand, 1) := by decide +kernel
theorem dX3_homeBy_31 : decode cX3_homeBy 31 = .ok (.istore 5, 2) := by decide +kernel
theorem dX3_homeBy_33 : decode cX3_homeBy 33 = .ok (.iload_n 2, 1) := by decide +kernel
theorem dX3_homeBy_34 : decode cX3_homeBy 34 = .ok (.ifCond .ne 6, 3) := by decide +kernel
theorem dX3_homeBy_37 : decode cX3_homeBy 37 = .ok (.iload 5, 2) := by decide +kernel
theorem dX3_homeBy_39 : decode cX3_homeBy 39 = .ok (.ireturn, 1) := by decide +kernel
theorem dX3_homeBy_40 : decode cX3_homeBy 40 = .ok (.iload_n 3, 1) := by decide +kernel
theorem dX3_homeBy_41 : decode cX3_homeBy 41 = .ok (.ldc 166, 2) := by decide +kernel
theorem dX3_homeBy_43 : decode cX3_homeBy 43 = .ok (.imul, 1) := by decide +kernel
theorem dX3_homeBy_44 : decode cX3_homeBy 44 = .ok (.istore 6, 2) := by decide +kernel
theorem dX3_homeBy_46 : decode cX3_homeBy 46 = .ok (.iload 6, 2) := by decide +kernel
theorem dX3_homeBy_48 : decode cX3_homeBy 48 = .ok (.iload 6, 2) := by decide +kernel
theorem dX3_homeBy_50 : decode cX3_homeBy 50 = .ok (.bipush 13, 2) := by decide +kernel
theorem dX3_homeBy_52 : decode cX3_homeBy 52 = .ok (.iushr, 1) := by decide +kernel
theorem dX3_homeBy_53 : decode cX3_homeBy 53 = .ok (.ixor, 1) := by decide +kernel
theorem dX3_homeBy_54 : decode cX3_homeBy 54 = .ok (.bipush 7, 2) := by decide +kernel
theorem dX3_homeBy_56 : decode cX3_homeBy 56 = .ok (.iand, 1) := by decide +kernel
theorem dX3_homeBy_57 : decode cX3_homeBy 57 = .ok (.istore 7, 2) := by decide +kernel
theorem dX3_homeBy_59 : decode cX3_homeBy 59 = .ok (.iload 7, 2) := by decide +kernel
theorem dX3_homeBy_61 : decode cX3_homeBy 61 = .ok (.iload 5, 2) := by decide +kernel
theorem dX3_homeBy_63 : decode cX3_homeBy 63 = .ok (.if_icmp .ne 13, 3) := by decide +kernel
theorem dX3_homeBy_66 : decode cX3_homeBy 66 = .ok (.iload 5, 2) := by decide +kernel
theorem dX3_homeBy_68 : decode cX3_homeBy 68 = .ok (.iconst 1, 1) := by decide +kernel
theorem dX3_homeBy_69 : decode cX3_homeBy 69 = .ok (.iadd, 1) := by decide +kernel
theorem dX3_homeBy_70 : decode cX3_homeBy 70 = .ok (.bipush 8, 2) := by decide +kernel
theorem dX3_homeBy_72 : decode cX3_homeBy 72 = .ok (.irem, 1) := by decide +kernel
theorem dX3_homeBy_73 : decode cX3_homeBy 73 = .ok (.goto 5, 3) := by decide +kernel
theorem dX3_homeBy_76 : decode cX3_homeBy 76 = .ok (.iload 7, 2) := by decide +kernel
theorem dX3_homeBy_78 : decode cX3_homeBy 78 = .ok (.ireturn, 1) := by decide +kernel
theorem dX3_otherRow_0 : decode cX3_otherRow 0 = .ok (.iload_n 0, 1) := by decide +kernel
theorem dX3_otherRow_1 : decode cX3_otherRow 1 = .ok (.iload_n 0, 1) := by decide +kernel
theorem dX3_otherRow_2 : decode cX3_otherRow 2 = .ok (.bipush 9, 2) := by decide +kernel
theorem dX3_otherRow_4 : decode cX3_otherRow 4 = .ok (.irem, 1) := by decide +kernel
theorem dX3_otherRow_5 : decode cX3_otherRow 5 = .ok (.isub, 1) := by decide +kernel
theorem dX3_otherRow_6 : decode cX3_otherRow 6 = .ok (.istore_n 3, 1) := by decide +kernel
theorem dX3_otherRow_7 : decode cX3_otherRow 7 = .ok (.iload_n 3, 1) := by decide +kernel
theorem dX3_otherRow_8 : decode cX3_otherRow 8 = .ok (.iload_n 1, 1) := by decide +kernel
theorem dX3_otherRow_9 : decode cX3_otherRow 9 = .ok (.iload_n 2, 1) := by decide +kernel
theorem dX3_otherRow_10 : decode cX3_otherRow 10 = .ok (.iconst 0, 1) := by decide +kernel
theorem dX3_otherRow_11 : decode cX3_otherRow 11 = .ok (.invokestatic 136, 3) := by decide +kernel
theorem dX3_otherRow_14 : decode cX3_otherRow 14 = .ok (.iadd, 1) := by decide +kernel
theorem dX3_otherRow_15 : decode cX3_otherRow 15 = .ok (.istore 4, 2) := by decide +kernel
theorem dX3_otherRow_17 : decode cX3_otherRow 17 = .ok (.iload_n 0, 1) := by decide +kernel
theorem dX3_otherRow_18 : decode cX3_otherRow 18 = .ok (.iload 4, 2) := by decide +kernel
theorem dX3_otherRow_20 : decode cX3_otherRow 20 = .ok (.if_icmp .ne 14, 3) := by decide +kernel
theorem dX3_otherRow_23 : decode cX3_otherRow 23 = .ok (.iload_n 3, 1) := by decide +kernel
theorem dX3_otherRow_24 : decode cX3_otherRow 24 = .ok (.iload_n 1, 1) := by decide +kernel
theorem dX3_otherRow_25 : decode cX3_otherRow 25 = .ok (.iload_n 2, 1) := by decide +kernel
theorem dX3_otherRow_26 : decode cX3_otherRow 26 = .ok (.iconst 1, 1) := by decide +kernel
theorem dX3_otherRow_27 : decode cX3_otherRow 27 = .ok (.invokestatic 136, 3) := by decide +kernel
theorem dX3_otherRow_30 : decode cX3_otherRow 30 = .ok (.iadd, 1) := by decide +kernel
theorem dX3_otherRow_31 : decode cX3_otherRow 31 = .ok (.goto 5, 3) := by decide +kernel
theorem dX3_otherRow_34 : decode cX3_otherRow 34 = .ok (.iload 4, 2) := by decide +kernel
theorem dX3_otherRow_36 : decode cX3_otherRow 36 = .ok (.ireturn, 1) := by decide +kernel
theorem dX3_find_0 : decode cX3_find 0 = .ok (.aload_n 0, 1) := by decide +kernel
theorem dX3_find_1 : decode cX3_find 1 = .ok (.aload_n 0, 1) := by decide +kernel
theorem dX3_find_2 : decode cX3_find 2 = .ok (.iload_n 1, 1) := by decide +kernel
theorem dX3_find_3 : decode cX3_find 3 = .ok (.iload_n 2, 1) := by decide +kernel
theorem dX3_find_4 : decode cX3_find 4 = .ok (.iconst 0, 1) := by decide +kernel
theorem dX3_find_5 : decode cX3_find 5 = .ok (.invokestatic 136, 3) := by decide +kernel
theorem dX3_find_8 : decode cX3_find 8 = .ok (.invokevirtual 123, 3) := by decide +kernel
theorem dX3_find_11 : decode cX3_find 11 = .ok (.iload_n 2, 1) := by decide +kernel
theorem dX3_find_12 : decode cX3_find 12 = .ok (.invokevirtual 167, 3) := by decide +kernel
theorem dX3_find_15 : decode cX3_find 15 = .ok (.istore_n 3, 1) := by decide +kernel
theorem dX3_find_16 : decode cX3_find 16 = .ok (.iload_n 3, 1) := by decide +kernel
theorem dX3_find_17 : decode cX3_find 17 = .ok (.iconst (-1), 1) := by decide +kernel
theorem dX3_find_18 : decode cX3_find 18 = .ok (.if_icmp .ne 19, 3) := by decide +kernel
theorem dX3_find_21 : decode cX3_find 21 = .ok (.aload_n 0, 1) := by decide +kernel
theorem dX3_find_22 : decode cX3_find 22 = .ok (.aload_n 0, 1) := by decide +kernel
theorem dX3_find_23 : decode cX3_find 23 = .ok (.iload_n 1, 1) := by decide +kernel
theorem dX3_find_24 : decode cX3_find 24 = .ok (.iload_n 2, 1) := by decide +kernel
theorem dX3_find_25 : decode cX3_find 25 = .ok (.iconst 1, 1) := by decide +kernel
theorem dX3_find_26 : decode cX3_find 26 = .ok (.invokestatic 136, 3) := by decide +kernel
theorem dX3_find_29 : decode cX3_find 29 = .ok (.invokevirtual 123, 3) := by decide +kernel
theorem dX3_find_32 : decode cX3_find 32 = .ok (.iload_n 2, 1) := by decide +kernel
theorem dX3_find_33 : decode cX3_find 33 = .ok (.invokevirtual 167, 3) := by decide +kernel
theorem dX3_find_36 : decode cX3_find 36 = .ok (.istore_n 3, 1) := by decide +kernel
theorem dX3_find_37 : decode cX3_find 37 = .ok (.iload_n 3, 1) := by decide +kernel
theorem dX3_find_38 : decode cX3_find 38 = .ok (.iconst (-1), 1) := by decide +kernel
theorem dX3_find_39 : decode cX3_find 39 = .ok (.if_icmp .ne 15, 3) := by decide +kernel
theorem dX3_find_42 : decode cX3_find 42 = .ok (.aload_n 0, 1) := by decide +kernel
theorem dX3_find_43 : decode cX3_find 43 = .ok (.aload_n 0, 1) := by decide +kernel
theorem dX3_find_44 : decode cX3_find 44 = .ok (.bipush 8, 2) := by decide +kernel
theorem dX3_find_46 : decode cX3_find 46 = .ok (.invokevirtual 123, 3) := by decide +kernel
theorem dX3_find_49 : decode cX3_find 49 = .ok (.iload_n 2, 1) := by decide +kernel
theorem dX3_find_50 : decode cX3_find 50 = .ok (.invokevirtual 167, 3) := by decide +kernel
theorem dX3_find_53 : decode cX3_find 53 = .ok (.istore_n 3, 1) := by decide +kernel
theorem dX3_find_54 : decode cX3_find 54 = .ok (.iload_n 3, 1) := by decide +kernel
theorem dX3_find_55 : decode cX3_find 55 = .ok (.ireturn, 1) := by decide +kernel
theorem dX3_choose_0 : decode cX3_choose 0 = .ok (.aload_n 1, 1) := by decide +kernel
theorem dX3_choose_1 : decode cX3_choose 1 = .ok (.iload_n 2, 1) := by decide +kernel
theorem dX3_choose_2 : decode cX3_choose 2 = .ok (.iload_n 3, 1) := by decide +kernel
theorem dX3_choose_3 : decode cX3_choose 3 = .ok (.invokestatic 81, 3) := by decide +kernel
theorem dX3_choose_6 : decode cX3_choose 6 = .ok (.istore 5, 2) := by decide +kernel
theorem dX3_choose_8 : decode cX3_choose 8 = .ok (.iload 5, 2) := by decide +kernel
theorem dX3_choose_10 : decode cX3_choose 10 = .ok (.iconst (-1), 1) := by decide +kernel
theorem dX3_choose_11 : decode cX3_choose 11 = .ok (.if_icmp .eq 17, 3) := by decide +kernel
theorem dX3_choose_14 : decode cX3_choose 14 = .ok (.aload_n 0, 1) := by decide +kernel
theorem dX3_choose_15 : decode cX3_choose 15 = .ok (.getfield 36, 3) := by decide +kernel
theorem dX3_choose_18 : decode cX3_choose 18 = .ok (.iload 5, 2) := by decide +kernel
theorem dX3_choose_20 : decode cX3_choose 20 = .ok (.iload_n 3, 1) := by decide +kernel
theorem dX3_choose_21 : decode cX3_choose 21 = .ok (.iload 4, 2) := by decide +kernel
theorem dX3_choose_23 : decode cX3_choose 23 = .ok (.invokevirtual 170, 3) := by decide +kernel
theorem dX3_choose_26 : decode cX3_choose 26 = .ok (.iconst 0, 1) := by decide +kernel
theorem dX3_choose_27 : decode cX3_choose 27 = .ok (.ireturn, 1) := by decide +kernel
theorem dX3_choose_28 : decode cX3_choose 28 = .ok (.aload_n 1, 1) := by decide +kernel
theorem dX3_choose_29 : decode cX3_choose 29 = .ok (.iload_n 2, 1) := by decide +kernel
theorem dX3_choose_30 : decode cX3_choose 30 = .ok (.iload_n 3, 1) := by decide +kernel
theorem dX3_choose_31 : decode cX3_choose 31 = .ok (.iconst 0, 1) := by decide +kernel
theorem dX3_choose_32 : decode cX3_choose 32 = .ok (.invokestatic 136, 3) := by decide +kernel
theorem dX3_choose_35 : decode cX3_choose 35 = .ok (.invokevirtual 123, 3) := by decide +kernel
theorem dX3_choose_38 : decode cX3_choose 38 = .ok (.istore 6, 2) := by decide +kernel
theorem dX3_choose_40 : decode cX3_choose 40 = .ok (.aload_n 1, 1) := by decide +kernel
theorem dX3_choose_41 : decode cX3_choose 41 = .ok (.iload_n 2, 1) := by decide +kernel
theorem dX3_choose_42 : decode cX3_choose 42 = .ok (.iload_n 3, 1) := by decide +kernel
theorem dX3_choose_43 : decode cX3_choose 43 = .ok (.iconst 1, 1) := by decide +kernel
theorem dX3_choose_44 : decode cX3_choose 44 = .ok (.invokestatic 136, 3) := by decide +kernel
theorem dX3_choose_47 : decode cX3_choose 47 = .ok (.invokevirtual 123, 3) := by decide +kernel
theorem dX3_choose_50 : decode cX3_choose 50 = .ok (.istore 7, 2) := by decide +kernel
theorem dX3_choose_52 : decode cX3_choose 52 = .ok (.aload_n 1, 1) := by decide +kernel
theorem dX3_choose_53 : decode cX3_choose 53 = .ok (.iload 6, 2) := by decide +kernel
theorem dX3_choose_55 : decode cX3_choose 55 = .ok (.invokevirtual 174, 3) := by decide +kernel
theorem dX3_choose_58 : decode cX3_choose 58 = .ok (.istore 8, 2) := by decide +kernel
theorem dX3_choose_60 : decode cX3_choose 60 = .ok (.iload 8, 2) := by decide +kernel
theorem dX3_choose_62 : decode cX3_choose 62 = .ok (.iconst (-1), 1) := by decide +kernel
theorem dX3_choose_63 : decode cX3_choose 63 = .ok (.if_icmp .ne 11, 3) := by decide +kernel
theorem dX3_choose_66 : decode cX3_choose 66 = .ok (.aload_n 1, 1) := by decide +kernel
theorem dX3_choose_67 : decode cX3_choose 67 = .ok (.iload 7, 2) := by decide +kernel
theorem dX3_choose_69 : decode cX3_choose 69 = .ok (.invokevirtual 174, 3) := by decide +kernel
theorem dX3_choose_72 : decode cX3_choose 72 = .ok (.istore 8, 2) := by decide +kernel
theorem dX3_choose_74 : decode cX3_choose 74 = .ok (.iload 8, 2) := by decide +kernel
theorem dX3_choose_76 : decode cX3_choose 76 = .ok (.iconst (-1), 1) := by decide +kernel
theorem dX3_choose_77 : decode cX3_choose 77 = .ok (.if_icmp .eq 17, 3) := by decide +kernel
theorem dX3_choose_80 : decode cX3_choose 80 = .ok (.aload_n 0, 1) := by decide +kernel
theorem dX3_choose_81 : decode cX3_choose 81 = .ok (.getfield 36, 3) := by decide +kernel
theorem dX3_choose_84 : decode cX3_choose 84 = .ok (.iload 8, 2) := by decide +kernel
theorem dX3_choose_86 : decode cX3_choose 86 = .ok (.iload_n 3, 1) := by decide +kernel
theorem dX3_choose_87 : decode cX3_choose 87 = .ok (.iload 4, 2) := by decide +kernel
theorem dX3_choose_89 : decode cX3_choose 89 = .ok (.invokevirtual 170, 3) := by decide +kernel
theorem dX3_choose_92 : decode cX3_choose 92 = .ok (.iconst 1, 1) := by decide +kernel
theorem dX3_choose_93 : decode cX3_choose 93 = .ok (.ireturn, 1) := by decide +kernel
theorem dX3_choose_94 : decode cX3_choose 94 = .ok (.aload_n 0, 1) := by decide +kernel
theorem dX3_choose_95 : decode cX3_choose 95 = .ok (.aload_n 1, 1) := by decide +kernel
theorem dX3_choose_96 : decode cX3_choose 96 = .ok (.iload_n 2, 1) := by decide +kernel
theorem dX3_choose_97 : decode cX3_choose 97 = .ok (.iload 6, 2) := by decide +kernel
theorem dX3_choose_99 : decode cX3_choose 99 = .ok (.iload_n 3, 1) := by decide +kernel
theorem dX3_choose_100 : decode cX3_choose 100 = .ok (.iload 4, 2) := by decide +kernel
theorem dX3_choose_102 : decode cX3_choose 102 = .ok (.invokevirtual 177, 3) := by decide +kernel
theorem dX3_choose_105 : decode cX3_choose 105 = .ok (.ifCond .ne 17, 3) := by decide +kernel
theorem dX3_choose_108 : decode cX3_choose 108 = .ok (.aload_n 0, 1) := by decide +kernel
theorem dX3_choose_109 : decode cX3_choose 109 = .ok (.aload_n 1, 1) := by decide +kernel
theorem dX3_choose_110 : decode cX3_choose 110 = .ok (.iload_n 2, 1) := by decide +kernel
theorem dX3_choose_111 : decode cX3_choose 111 = .ok (.iload 7, 2) := by decide +kernel
theorem dX3_choose_113 : decode cX3_choose 113 = .ok (.iload_n 3, 1) := by decide +kernel
theorem dX3_choose_114 : decode cX3_choose 114 = .ok (.iload 4, 2) := by decide +kernel
theorem dX3_choose_116 : decode cX3_choose 116 = .ok (.invokevirtual 177, 3) := by decide +kernel
theorem dX3_choose_119 : decode cX3_choose 119 = .ok (.ifCond .eq 5, 3) := by decide +kernel
theorem dX3_choose_122 : decode cX3_choose 122 = .ok (.iconst 2, 1) := by decide +kernel
theorem dX3_choose_123 : decode cX3_choose 123 = .ok (.ireturn, 1) := by decide +kernel
theorem dX3_choose_124 : decode cX3_choose 124 = .ok (.aload_n 1, 1) := by decide +kernel
theorem dX3_choose_125 : decode cX3_choose 125 = .ok (.aload_n 1, 1) := by decide +kernel
theorem dX3_choose_126 : decode cX3_choose 126 = .ok (.bipush 8, 2) := by decide +kernel
theorem dX3_choose_128 : decode cX3_choose 128 = .ok (.invokevirtual 123, 3) := by decide +kernel
theorem dX3_choose_131 : decode cX3_choose 131 = .ok (.invokevirtual 174, 3) := by decide +kernel
theorem dX3_choose_134 : decode cX3_choose 134 = .ok (.istore 8, 2) := by decide +kernel
theorem dX3_choose_136 : decode cX3_choose 136 = .ok (.iload 8, 2) := by decide +kernel
theorem dX3_choose_138 : decode cX3_choose 138 = .ok (.iconst (-1), 1) := by decide +kernel
theorem dX3_choose_139 : decode cX3_choose 139 = .ok (.if_icmp .eq 17, 3) := by decide +kernel
theorem dX3_choose_142 : decode cX3_choose 142 = .ok (.aload_n 0, 1) := by decide +kernel
theorem dX3_choose_143 : decode cX3_choose 143 = .ok (.getfield 36, 3) := by decide +kernel
theorem dX3_choose_146 : decode cX3_choose 146 = .ok (.iload 8, 2) := by decide +kernel
theorem dX3_choose_148 : decode cX3_choose 148 = .ok (.iload_n 3, 1) := by decide +kernel
theorem dX3_choose_149 : decode cX3_choose 149 = .ok (.iload 4, 2) := by decide +kernel
theorem dX3_choose_151 : decode cX3_choose 151 = .ok (.invokevirtual 170, 3) := by decide +kernel
theorem dX3_choose_154 : decode cX3_choose 154 = .ok (.iconst 3, 1) := by decide +kernel
theorem dX3_choose_155 : decode cX3_choose 155 = .ok (.ireturn, 1) := by decide +kernel
theorem dX3_choose_156 : decode cX3_choose 156 = .ok (.bipush (-2), 2) := by decide +kernel
theorem dX3_choose_158 : decode cX3_choose 158 = .ok (.ireturn, 1) := by decide +kernel
theorem dX3_layPath_0 : decode cX3_layPath 0 = .ok (.iload_n 3, 1) := by decide +kernel
theorem dX3_layPath_1 : decode cX3_layPath 1 = .ok (.istore 6, 2) := by decide +kernel
theorem dX3_layPath_3 : decode cX3_layPath 3 = .ok (.iload 4, 2) := by decide +kernel
theorem dX3_layPath_5 : decode cX3_layPath 5 = .ok (.istore 7, 2) := by decide +kernel
theorem dX3_layPath_7 : decode cX3_layPath 7 = .ok (.iload 5, 2) := by decide +kernel
theorem dX3_layPath_9 : decode cX3_layPath 9 = .ok (.istore 8, 2) := by decide +kernel
theorem dX3_layPath_11 : decode cX3_layPath 11 = .ok (.aload_n 0, 1) := by decide +kernel
theorem dX3_layPath_12 : decode cX3_layPath 12 = .ok (.getfield 36, 3) := by decide +kernel
theorem dX3_layPath_15 : decode cX3_layPath 15 = .ok (.invokevirtual 181, 3) := by decide +kernel
theorem dX3_layPath_18 : decode cX3_layPath 18 = .ok (.iconst 0, 1) := by decide +kernel
theorem dX3_layPath_19 : decode cX3_layPath 19 = .ok (.istore 9, 2) := by decide +kernel
theorem dX3_layPath_21 : decode cX3_layPath 21 = .ok (.iload 9, 2) := by decide +kernel
theorem dX3_layPath_23 : decode cX3_layPath 23 = .ok (.bipush 6, 2) := by decide +kernel
theorem dX3_layPath_25 : decode cX3_layPath 25 = .ok (.if_icmp .ge 97, 3) := by decide +kernel
theorem dX3_layPath_28 : decode cX3_layPath 28 = .ok (.aload_n 0, 1) := by decide +kernel
theorem dX3_layPath_29 : decode cX3_layPath 29 = .ok (.iload 6, 2) := by decide +kernel
theorem dX3_layPath_31 : decode cX3_layPath 31 = .ok (.iload 9, 2) := by decide +kernel
theorem dX3_layPath_33 : decode cX3_layPath 33 = .ok (.iconst 4, 1) := by decide +kernel
theorem dX3_layPath_34 : decode cX3_layPath 34 = .ok (.irem, 1) := by decide +kernel
theorem dX3_layPath_35 : decode cX3_layPath 35 = .ok (.invokevirtual 184, 3) := by decide +kernel
theorem dX3_layPath_38 : decode cX3_layPath 38 = .ok (.istore 10, 2) := by decide +kernel
theorem dX3_layPath_40 : decode cX3_layPath 40 = .ok (.iload 10, 2) := by decide +kernel
theorem dX3_layPath_42 : decode cX3_layPath 42 = .ok (.iconst (-1), 1) := by decide +kernel
theorem dX3_layPath_43 : decode cX3_layPath 43 = .ok (.if_icmp .ne 5, 3) := by decide +kernel
theorem dX3_layPath_46 : decode cX3_layPath 46 = .ok (.iconst 0, 1) := by decide +kernel
theorem dX3_layPath_47 : decode cX3_layPath 47 = .ok (.ireturn, 1) := by decide +kernel
theorem dX3_layPath_48 : decode cX3_layPath 48 = .ok (.aload_n 0, 1) := by decide +kernel
theorem dX3_layPath_49 : decode cX3_layPath 49 = .ok (.getfield 36, 3) := by decide +kernel
theorem dX3_layPath_52 : decode cX3_layPath 52 = .ok (.iload 10, 2) := by decide +kernel
theorem dX3_layPath_54 : decode cX3_layPath 54 = .ok (.iload 7, 2) := by decide +kernel
theorem dX3_layPath_56 : decode cX3_layPath 56 = .ok (.iload 8, 2) := by decide +kernel
theorem dX3_layPath_58 : decode cX3_layPath 58 = .ok (.invokevirtual 187, 3) := by decide +kernel
theorem dX3_layPath_61 : decode cX3_layPath 61 = .ok (.aload_n 1, 1) := by decide +kernel
theorem dX3_layPath_62 : decode cX3_layPath 62 = .ok (.iload 10, 2) := by decide +kernel
theorem dX3_layPath_64 : decode cX3_layPath 64 = .ok (.invokevirtual 133, 3) := by decide +kernel
theorem dX3_layPath_67 : decode cX3_layPath 67 = .ok (.istore 7, 2) := by decide +kernel
theorem dX3_layPath_69 : decode cX3_layPath 69 = .ok (.aload_n 1, 1) := by decide +kernel
theorem dX3_layPath_70 : decode cX3_layPath 70 = .ok (.iload 10, 2) := by decide +kernel
theorem dX3_layPath_72 : decode cX3_layPath 72 = .ok (.invokevirtual 85, 3) := by decide +kernel
theorem dX3_layPath_75 : decode cX3_layPath 75 = .ok (.istore 8, 2) := by decide +kernel
theorem dX3_layPath_77 : decode cX3_layPath 77 = .ok (.iload 6, 2) := by decide +kernel
theorem dX3_layPath_79 : decode cX3_layPath 79 = .ok (.iload_n 2, 1) := by decide +kernel
theorem dX3_layPath_80 : decode cX3_layPath 80 = .ok (.iload 7, 2) := by decide +kernel
theorem dX3_layPath_82 : decode cX3_layPath 82 = .ok (.invokestatic 190, 3) := by decide +kernel
theorem dX3_layPath_85 : decode cX3_layPath 85 = .ok (.istore 6, 2) := by decide +kernel
theorem dX3_layPath_87 : decode cX3_layPath 87 = .ok (.aload_n 1, 1) := by decide +kernel
theorem dX3_layPath_88 : decode cX3_layPath 88 = .ok (.iload 6, 2) := by decide +kernel
theorem dX3_layPath_90 : decode cX3_layPath 90 = .ok (.invokevirtual 174, 3) := by decide +kernel
theorem dX3_layPath_93 : decode cX3_layPath 93 = .ok (.istore 11, 2) := by decide +kernel
theorem dX3_layPath_95 : decode cX3_layPath 95 = .ok (.iload 11, 2) := by decide +kernel
theorem dX3_layPath_97 : decode cX3_layPath 97 = .ok (.iconst (-1), 1) := by decide +kernel
theorem dX3_layPath_98 : decode cX3_layPath 98 = .ok (.if_icmp .eq 18, 3) := by decide +kernel
theorem dX3_layPath_101 : decode cX3_layPath 101 = .ok (.aload_n 0, 1) := by decide +kernel
theorem dX3_layPath_102 : decode cX3_layPath 102 = .ok (.getfield 36, 3) := by decide +kernel
theorem dX3_layPath_105 : decode cX3_layPath 105 = .ok (.iload 11, 2) := by decide +kernel
theorem dX3_layPath_107 : decode cX3_layPath 107 = .ok (.iload 7, 2) := by decide +kernel
theorem dX3_layPath_109 : decode cX3_layPath 109 = .ok (.iload 8, 2) := by decide +kernel
theorem dX3_layPath_111 : decode cX3_layPath 111 = .ok (.invokevirtual 187, 3) := by decide +kernel
theorem dX3_layPath_114 : decode cX3_layPath 114 = .ok (.iconst 1, 1) := by decide +kernel
theorem dX3_layPath_115 : decode cX3_layPath 115 = .ok (.ireturn, 1) := by decide +kernel
theorem dX3_layPath_116 : decode cX3_layPath 116 = .ok (.iinc 9 1, 3) := by decide +kernel
theorem dX3_layPath_119 : decode cX3_layPath 119 = .ok (.goto (-98), 3) := by decide +kernel
theorem dX3_layPath_122 : decode cX3_layPath 122 = .ok (.iconst 0, 1) := by decide +kernel
theorem dX3_layPath_123 : decode cX3_layPath 123 = .ok (.ireturn, 1) := by decide +kernel
theorem dX3_nextOnPath_0 : decode cX3_nextOnPath 0 = .ok (.iconst 0, 1) := by decide +kernel
theorem dX3_nextOnPath_1 : decode cX3_nextOnPath 1 = .ok (.istore_n 3, 1) := by decide +kernel
theorem dX3_nextOnPath_2 : decode cX3_nextOnPath 2 = .ok (.iload_n 3, 1) := by decide +kernel
theorem dX3_nextOnPath_3 : decode cX3_nextOnPath 3 = .ok (.iconst 4, 1) := by decide +kernel
theorem dX3_nextOnPath_4 : decode cX3_nextOnPath 4 = .ok (.if_icmp .ge 35, 3) := by decide +kernel
theorem dX3_nextOnPath_7 : decode cX3_nextOnPath 7 = .ok (.iload_n 1, 1) := by decide +kernel
theorem dX3_nextOnPath_8 : decode cX3_nextOnPath 8 = .ok (.iload_n 2, 1) := by decide +kernel
theorem dX3_nextOnPath_9 : decode cX3_nextOnPath 9 = .ok (.iload_n 3, 1) := by decide +kernel
theorem dX3_nextOnPath_10 : decode cX3_nextOnPath 10 = .ok (.iadd, 1) := by decide +kernel
theorem dX3_nextOnPath_11 : decode cX3_nextOnPath 11 = .ok (.iconst 4, 1) := by decide +kernel
theorem dX3_nextOnPath_12 : decode cX3_nextOnPath 12 = .ok (.irem, 1) := by decide +kernel
theorem dX3_nextOnPath_13 : decode cX3_nextOnPath 13 = .ok (.invokestatic 126, 3) := by decide +kernel
theorem dX3_nextOnPath_16 : decode cX3_nextOnPath 16 = .ok (.istore 4, 2) := by decide +kernel
theorem dX3_nextOnPath_18 : decode cX3_nextOnPath 18 = .ok (.aload_n 0, 1) := by decide +kernel
theorem dX3_nextOnPath_19 : decode cX3_nextOnPath 19 = .ok (.getfield 36, 3) := by decide +kernel
theorem dX3_nextOnPath_22 : decode cX3_nextOnPath 22 = .ok (.iload 4, 2) := by decide +kernel
theorem dX3_nextOnPath_24 : decode cX3_nextOnPath 24 = .ok (.invokevirtual 194, 3) := by decide +kernel
theorem dX3_nextOnPath_27 : decode cX3_nextOnPath 27 = .ok (.ifCond .ne 6, 3) := by decide +kernel
theorem dX3_nextOnPath_30 : decode cX3_nextOnPath 30 = .ok (.iload 4, 2) := by decide +kernel
theorem dX3_nextOnPath_32 : decode cX3_nextOnPath 32 = .ok (.ireturn, 1) := by decide +kernel
theorem dX3_nextOnPath_33 : decode cX3_nextOnPath 33 = .ok (.iinc 3 1, 3) := by decide +kernel
theorem dX3_nextOnPath_36 : decode cX3_nextOnPath 36 = .ok (.goto (-34), 3) := by decide +kernel
theorem dX3_nextOnPath_39 : decode cX3_nextOnPath 39 = .ok (.iconst (-1), 1) := by decide +kernel
theorem dX3_nextOnPath_40 : decode cX3_nextOnPath 40 = .ok (.ireturn, 1) := by decide +kernel
theorem dX3_followPath_0 : decode cX3_followPath 0 = .ok (.aload_n 0, 1) := by decide +kernel
theorem dX3_followPath_1 : decode cX3_followPath 1 = .ok (.getfield 16, 3) := by decide +kernel
theorem dX3_followPath_4 : decode cX3_followPath 4 = .ok (.aload_n 0, 1) := by decide +kernel
theorem dX3_followPath_5 : decode cX3_followPath 5 = .ok (.getfield 36, 3) := by decide +kernel
theorem dX3_followPath_8 : decode cX3_followPath 8 = .ok (.invokevirtual 197, 3) := by decide +kernel
theorem dX3_followPath_11 : decode cX3_followPath 11 = .ok (.aload_n 0, 1) := by decide +kernel
theorem dX3_followPath_12 : decode cX3_followPath 12 = .ok (.bipush 19, 2) := by decide +kernel
theorem dX3_followPath_14 : decode cX3_followPath 14 = .ok (.invokevirtual 96, 3) := by decide +kernel
theorem dX3_followPath_17 : decode cX3_followPath 17 = .ok (.aload_n 0, 1) := by decide +kernel
theorem dX3_followPath_18 : decode cX3_followPath 18 = .ok (.invokevirtual 78, 3) := by decide +kernel
theorem dX3_followPath_21 : decode cX3_followPath 21 = .ok (.aload_n 0, 1) := by decide +kernel
theorem dX3_followPath_22 : decode cX3_followPath 22 = .ok (.getfield 16, 3) := by decide +kernel
theorem dX3_followPath_25 : decode cX3_followPath 25 = .ok (.invokevirtual 201, 3) := by decide +kernel
theorem dX3_followPath_28 : decode cX3_followPath 28 = .ok (.aload_n 0, 1) := by decide +kernel
theorem dX3_followPath_29 : decode cX3_followPath 29 = .ok (.bipush 19, 2) := by decide +kernel
theorem dX3_followPath_31 : decode cX3_followPath 31 = .ok (.invokevirtual 96, 3) := by decide +kernel
theorem dX3_followPath_34 : decode cX3_followPath 34 = .ok (.aload_n 0, 1) := by decide +kernel
theorem dX3_followPath_35 : decode cX3_followPath 35 = .ok (.aload_n 0, 1) := by decide +kernel
theorem dX3_followPath_36 : decode cX3_followPath 36 = .ok (.getfield 36, 3) := by decide +kernel
theorem dX3_followPath_39 : decode cX3_followPath 39 = .ok (.invokevirtual 204, 3) := by decide +kernel
theorem dX3_followPath_42 : decode cX3_followPath 42 = .ok (.putfield 156, 3) := by decide +kernel
theorem dX3_followPath_45 : decode cX3_followPath 45 = .ok (.return_, 1) := by decide +kernel
theorem dX3_makeMoves_0 : decode cX3_makeMoves 0 = .ok (.aload_n 0, 1) := by decide +kernel
theorem dX3_makeMoves_1 : decode cX3_makeMoves 1 = .ok (.getfield 36, 3) := by decide +kernel
theorem dX3_makeMoves_4 : decode cX3_makeMoves 4 = .ok (.invokevirtual 204, 3) := by decide +kernel
theorem dX3_makeMoves_7 : decode cX3_makeMoves 7 = .ok (.iconst 1, 1) := by decide +kernel
theorem dX3_makeMoves_8 : decode cX3_makeMoves 8 = .ok (.isub, 1) := by decide +kernel
theorem dX3_makeMoves_9 : decode cX3_makeMoves 9 = .ok (.istore_n 1, 1) := by decide +kernel
theorem dX3_makeMoves_10 : decode cX3_makeMoves 10 = .ok (.iload_n 1, 1) := by decide +kernel
theorem dX3_makeMoves_11 : decode cX3_makeMoves 11 = .ok (.ifCond .lt 50, 3) := by decide +kernel
theorem dX3_makeMoves_14 : decode cX3_makeMoves 14 = .ok (.aload_n 0, 1) := by decide +kernel
theorem dX3_makeMoves_15 : decode cX3_makeMoves 15 = .ok (.getfield 36, 3) := by decide +kernel
theorem dX3_makeMoves_18 : decode cX3_makeMoves 18 = .ok (.iload_n 1, 1) := by decide +kernel
theorem dX3_makeMoves_19 : decode cX3_makeMoves 19 = .ok (.invokevirtual 205, 3) := by decide +kernel
theorem dX3_makeMoves_22 : decode cX3_makeMoves 22 = .ok (.istore_n 2, 1) := by decide +kernel
theorem dX3_makeMoves_23 : decode cX3_makeMoves 23 = .ok (.aload_n 0, 1) := by decide +kernel
theorem dX3_makeMoves_24 : decode cX3_makeMoves 24 = .ok (.getfield 16, 3) := by decide +kernel
theorem dX3_makeMoves_27 : decode cX3_makeMoves 27 = .ok (.iload_n 2, 1) := by decide +kernel
theorem dX3_makeMoves_28 : decode cX3_makeMoves 28 = .ok (.aload_n 0, 1) := by decide +kernel
theorem dX3_makeMoves_29 : decode cX3_makeMoves 29 = .ok (.getfield 36, 3) := by decide +kernel
theorem dX3_makeMoves_32 : decode cX3_makeMoves 32 = .ok (.iload_n 1, 1) := by decide +kernel
theorem dX3_makeMoves_33 : decode cX3_makeMoves 33 = .ok (.invokevirtual 208, 3) := by decide +kernel
theorem dX3_makeMoves_36 : decode cX3_makeMoves 36 = .ok (.aload_n 0, 1) := by decide +kernel
theorem dX3_makeMoves_37 : decode cX3_makeMoves 37 = .ok (.getfield 36, 3) := by decide +kernel
theorem dX3_makeMoves_40 : decode cX3_makeMoves 40 = .ok (.iload_n 1, 1) := by decide +kernel
theorem dX3_makeMoves_41 : decode cX3_makeMoves 41 = .ok (.invokevirtual 209, 3) := by decide +kernel
theorem dX3_makeMoves_44 : decode cX3_makeMoves 44 = .ok (.invokevirtual 210, 3) := by decide +kernel
theorem dX3_makeMoves_47 : decode cX3_makeMoves 47 = .ok (.aload_n 0, 1) := by decide +kernel
theorem dX3_makeMoves_48 : decode cX3_makeMoves 48 = .ok (.iload_n 2, 1) := by decide +kernel
theorem dX3_makeMoves_49 : decode cX3_makeMoves 49 = .ok (.invokestatic 93, 3) := by decide +kernel
theorem dX3_makeMoves_52 : decode cX3_makeMoves 52 = .ok (.invokevirtual 96, 3) := by decide +kernel
theorem dX3_makeMoves_55 : decode cX3_makeMoves 55 = .ok (.iinc 1 (-1), 3) := by decide +kernel
theorem dX3_makeMoves_58 : decode cX3_makeMoves 58 = .ok (.goto (-48), 3) := by decide +kernel
theorem dX3_makeMoves_61 : decode cX3_makeMoves 61 = .ok (.return_, 1) := by decide +kernel
theorem dX3_fillTrial_0 : decode cX3_fillTrial 0 = .ok (.aload_n 0, 1) := by decide +kernel
theorem dX3_fillTrial_1 : decode cX3_fillTrial 1 = .ok (.getfield 23, 3) := by decide +kernel
theorem dX3_fillTrial_4 : decode cX3_fillTrial 4 = .ok (.invokevirtual 213, 3) := by decide +kernel
theorem dX3_fillTrial_7 : decode cX3_fillTrial 7 = .ok (.aload_n 0, 1) := by decide +kernel
theorem dX3_fillTrial_8 : decode cX3_fillTrial 8 = .ok (.getfield 23, 3) := by decide +kernel
theorem dX3_fillTrial_11 : decode cX3_fillTrial 11 = .ok (.iconst 1, 1) := by decide +kernel
theorem dX3_fillTrial_12 : decode cX3_fillTrial 12 = .ok (.aload_n 0, 1) := by decide +kernel
theorem dX3_fillTrial_13 : decode cX3_fillTrial 13 = .ok (.getfield 16, 3) := by decide +kernel
theorem dX3_fillTrial_16 : decode cX3_fillTrial 16 = .ok (.invokevirtual 150, 3) := by decide +kernel
theorem dX3_fillTrial_19 : decode cX3_fillTrial 19 = .ok (.isub, 1) := by decide +kernel
theorem dX3_fillTrial_20 : decode cX3_fillTrial 20 = .ok (.iload_n 1, 1) := by decide +kernel
theorem dX3_fillTrial_21 : decode cX3_fillTrial 21 = .ok (.invokevirtual 216, 3) := by decide +kernel
theorem dX3_fillTrial_24 : decode cX3_fillTrial 24 = .ok (.aload_n 0, 1) := by decide +kernel
theorem dX3_fillTrial_25 : decode cX3_fillTrial 25 = .ok (.aload_n 0, 1) := by decide +kernel
theorem dX3_fillTrial_26 : decode cX3_fillTrial 26 = .ok (.getfield 23, 3) := by decide +kernel
theorem dX3_fillTrial_29 : decode cX3_fillTrial 29 = .ok (.invokevirtual 56, 3) := by decide +kernel
theorem dX3_fillTrial_32 : decode cX3_fillTrial 32 = .ok (.istore 4, 2) := by decide +kernel
theorem dX3_fillTrial_34 : decode cX3_fillTrial 34 = .ok (.aload_n 0, 1) := by decide +kernel
theorem dX3_fillTrial_35 : decode cX3_fillTrial 35 = .ok (.getfield 16, 3) := by decide +kernel
theorem dX3_fillTrial_38 : decode cX3_fillTrial 38 = .ok (.iconst 0, 1) := by decide +kernel
theorem dX3_fillTrial_39 : decode cX3_fillTrial 39 = .ok (.invokevirtual 123, 3) := by decide +kernel
theorem dX3_fillTrial_42 : decode cX3_fillTrial 42 = .ok (.iconst 0, 1) := by decide +kernel
theorem dX3_fillTrial_43 : decode cX3_fillTrial 43 = .ok (.invokestatic 126, 3) := by decide +kernel
theorem dX3_fillTrial_46 : decode cX3_fillTrial 46 = .ok (.istore 5, 2) := by decide +kernel
theorem dX3_fillTrial_48 : decode cX3_fillTrial 48 = .ok (.iconst 0, 1) := by decide +kernel
theorem dX3_fillTrial_49 : decode cX3_fillTrial 49 = .ok (.istore 6, 2) := by decide +kernel
theorem dX3_fillTrial_51 : decode cX3_fillTrial 51 = .ok (.iload 6, 2) := by decide +kernel
theorem dX3_fillTrial_53 : decode cX3_fillTrial 53 = .ok (.bipush 36, 2) := by decide +kernel
theorem dX3_fillTrial_55 : decode cX3_fillTrial 55 = .ok (.if_icmp .ge 74, 3) := by decide +kernel
theorem dX3_fillTrial_58 : decode cX3_fillTrial 58 = .ok (.iload 5, 2) := by decide +kernel
theorem dX3_fillTrial_60 : decode cX3_fillTrial 60 = .ok (.iload 6, 2) := by decide +kernel
theorem dX3_fillTrial_62 : decode cX3_fillTrial 62 = .ok (.iadd, 1) := by decide +kernel
theorem dX3_fillTrial_63 : decode cX3_fillTrial 63 = .ok (.istore 7, 2) := by decide +kernel
theorem dX3_fillTrial_65 : decode cX3_fillTrial 65 = .ok (.aload_n 0, 1) := by decide +kernel
theorem dX3_fillTrial_66 : decode cX3_fillTrial 66 = .ok (.getfield 16, 3) := by decide +kernel
theorem dX3_fillTrial_69 : decode cX3_fillTrial 69 = .ok (.iload 7, 2) := by decide +kernel
theorem dX3_fillTrial_71 : decode cX3_fillTrial 71 = .ok (.invokevirtual 129, 3) := by decide +kernel
theorem dX3_fillTrial_74 : decode cX3_fillTrial 74 = .ok (.ifCond .eq 49, 3) := by decide +kernel
theorem dX3_fillTrial_77 : decode cX3_fillTrial 77 = .ok (.aload_n 0, 1) := by decide +kernel
theorem dX3_fillTrial_78 : decode cX3_fillTrial 78 = .ok (.aload_n 0, 1) := by decide +kernel
theorem dX3_fillTrial_79 : decode cX3_fillTrial 79 = .ok (.getfield 23, 3) := by decide +kernel
theorem dX3_fillTrial_82 : decode cX3_fillTrial 82 = .ok (.iload 4, 2) := by decide +kernel
theorem dX3_fillTrial_84 : decode cX3_fillTrial 84 = .ok (.aload_n 0, 1) := by decide +kernel
theorem dX3_fillTrial_85 : decode cX3_fillTrial 85 = .ok (.getfield 16, 3) := by decide +kernel
theorem dX3_fillTrial_88 : decode cX3_fillTrial 88 = .ok (.iload 7, 2) := by decide +kernel
theorem dX3_fillTrial_90 : decode cX3_fillTrial 90 = .ok (.invokevirtual 133, 3) := by decide +kernel
theorem dX3_fillTrial_93 : decode cX3_fillTrial 93 = .ok (.aload_n 0, 1) := by decide +kernel
theorem dX3_fillTrial_94 : decode cX3_fillTrial 94 = .ok (.getfield 16, 3) := by decide +kernel
theorem dX3_fillTrial_97 : decode cX3_fillTrial 97 = .ok (.iload 7, 2) := by decide +kernel
