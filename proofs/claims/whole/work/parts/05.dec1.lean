theorem dX2_add_29 : decode cX2_add 29 = .ok (.aload_n 1, 1) := by decide +kernel
theorem dX2_add_30 : decode cX2_add 30 = .ok (.getfield 22, 3) := by decide +kernel
theorem dX2_add_33 : decode cX2_add 33 = .ok (.iload_n 2, 1) := by decide +kernel
theorem dX2_add_34 : decode cX2_add 34 = .ok (.aload_n 0, 1) := by decide +kernel
theorem dX2_add_35 : decode cX2_add 35 = .ok (.getfield 15, 3) := by decide +kernel
theorem dX2_add_38 : decode cX2_add 38 = .ok (.aload_n 0, 1) := by decide +kernel
theorem dX2_add_39 : decode cX2_add 39 = .ok (.getfield 18, 3) := by decide +kernel
theorem dX2_add_42 : decode cX2_add 42 = .ok (.invokestatic 25, 3) := by decide +kernel
theorem dX2_add_45 : decode cX2_add 45 = .ok (.aload_n 0, 1) := by decide +kernel
theorem dX2_add_46 : decode cX2_add 46 = .ok (.dup, 1) := by decide +kernel
theorem dX2_add_47 : decode cX2_add 47 = .ok (.getfield 18, 3) := by decide +kernel
theorem dX2_add_50 : decode cX2_add 50 = .ok (.iconst 1, 1) := by decide +kernel
theorem dX2_add_51 : decode cX2_add 51 = .ok (.iadd, 1) := by decide +kernel
theorem dX2_add_52 : decode cX2_add 52 = .ok (.putfield 18, 3) := by decide +kernel
theorem dX2_add_55 : decode cX2_add 55 = .ok (.return_, 1) := by decide +kernel
theorem dX2_doFirst_0 : decode cX2_doFirst 0 = .ok (.iconst 0, 1) := by decide +kernel
theorem dX2_doFirst_1 : decode cX2_doFirst 1 = .ok (.istore_n 3, 1) := by decide +kernel
theorem dX2_doFirst_2 : decode cX2_doFirst 2 = .ok (.iload_n 3, 1) := by decide +kernel
theorem dX2_doFirst_3 : decode cX2_doFirst 3 = .ok (.iload_n 1, 1) := by decide +kernel
theorem dX2_doFirst_4 : decode cX2_doFirst 4 = .ok (.if_icmp .ge 36, 3) := by decide +kernel
theorem dX2_doFirst_7 : decode cX2_doFirst 7 = .ok (.iload_n 3, 1) := by decide +kernel
theorem dX2_doFirst_8 : decode cX2_doFirst 8 = .ok (.aload_n 0, 1) := by decide +kernel
theorem dX2_doFirst_9 : decode cX2_doFirst 9 = .ok (.getfield 9, 3) := by decide +kernel
theorem dX2_doFirst_12 : decode cX2_doFirst 12 = .ok (.arraylength, 1) := by decide +kernel
theorem dX2_doFirst_13 : decode cX2_doFirst 13 = .ok (.if_icmp .ge 27, 3) := by decide +kernel
theorem dX2_doFirst_16 : decode cX2_doFirst 16 = .ok (.aload_n 0, 1) := by decide +kernel
theorem dX2_doFirst_17 : decode cX2_doFirst 17 = .ok (.getfield 15, 3) := by decide +kernel
theorem dX2_doFirst_20 : decode cX2_doFirst 20 = .ok (.iload_n 3, 1) := by decide +kernel
theorem dX2_doFirst_21 : decode cX2_doFirst 21 = .ok (.aload_n 2, 1) := by decide +kernel
theorem dX2_doFirst_22 : decode cX2_doFirst 22 = .ok (.getfield 22, 3) := by decide +kernel
theorem dX2_doFirst_25 : decode cX2_doFirst 25 = .ok (.aload_n 0, 1) := by decide +kernel
theorem dX2_doFirst_26 : decode cX2_doFirst 26 = .ok (.getfield 9, 3) := by decide +kernel
theorem dX2_doFirst_29 : decode cX2_doFirst 29 = .ok (.iload_n 3, 1) := by decide +kernel
theorem dX2_doFirst_30 : decode cX2_doFirst 30 = .ok (.iaload, 1) := by decide +kernel
theorem dX2_doFirst_31 : decode cX2_doFirst 31 = .ok (.invokestatic 25, 3) := by decide +kernel
theorem dX2_doFirst_34 : decode cX2_doFirst 34 = .ok (.iinc 3 1, 3) := by decide +kernel
theorem dX2_doFirst_37 : decode cX2_doFirst 37 = .ok (.goto (-35), 3) := by decide +kernel
theorem dX2_doFirst_40 : decode cX2_doFirst 40 = .ok (.aload_n 0, 1) := by decide +kernel
theorem dX2_doFirst_41 : decode cX2_doFirst 41 = .ok (.iconst 0, 1) := by decide +kernel
theorem dX2_doFirst_42 : decode cX2_doFirst 42 = .ok (.putfield 18, 3) := by decide +kernel
theorem dX2_doFirst_45 : decode cX2_doFirst 45 = .ok (.return_, 1) := by decide +kernel
theorem dX3_init_0 : decode cX3_init 0 = .ok (.aload_n 0, 1) := by decide +kernel
theorem dX3_init_1 : decode cX3_init 1 = .ok (.invokespecial 3, 3) := by decide +kernel
theorem dX3_init_4 : decode cX3_init 4 = .ok (.aload_n 0, 1) := by decide +kernel
theorem dX3_init_5 : decode cX3_init 5 = .ok (.iconst 4, 1) := by decide +kernel
theorem dX3_init_6 : decode cX3_init 6 = .ok (.newarray .int, 2) := by decide +kernel
theorem dX3_init_8 : decode cX3_init 8 = .ok (.dup, 1) := by decide +kernel
theorem dX3_init_9 : decode cX3_init 9 = .ok (.iconst 0, 1) := by decide +kernel
theorem dX3_init_10 : decode cX3_init 10 = .ok (.iconst 1, 1) := by decide +kernel
theorem dX3_init_11 : decode cX3_init 11 = .ok (.iastore, 1) := by decide +kernel
theorem dX3_init_12 : decode cX3_init 12 = .ok (.dup, 1) := by decide +kernel
theorem dX3_init_13 : decode cX3_init 13 = .ok (.iconst 1, 1) := by decide +kernel
theorem dX3_init_14 : decode cX3_init 14 = .ok (.iconst 2, 1) := by decide +kernel
theorem dX3_init_15 : decode cX3_init 15 = .ok (.iastore, 1) := by decide +kernel
theorem dX3_init_16 : decode cX3_init 16 = .ok (.dup, 1) := by decide +kernel
theorem dX3_init_17 : decode cX3_init 17 = .ok (.iconst 2, 1) := by decide +kernel
theorem dX3_init_18 : decode cX3_init 18 = .ok (.iconst 3, 1) := by decide +kernel
theorem dX3_init_19 : decode cX3_init 19 = .ok (.iastore, 1) := by decide +kernel
theorem dX3_init_20 : decode cX3_init 20 = .ok (.dup, 1) := by decide +kernel
theorem dX3_init_21 : decode cX3_init 21 = .ok (.iconst 3, 1) := by decide +kernel
theorem dX3_init_22 : decode cX3_init 22 = .ok (.iconst 4, 1) := by decide +kernel
theorem dX3_init_23 : decode cX3_init 23 = .ok (.iastore, 1) := by decide +kernel
theorem dX3_init_24 : decode cX3_init 24 = .ok (.putfield 9, 3) := by decide +kernel
theorem dX3_init_27 : decode cX3_init 27 = .ok (.aload_n 0, 1) := by decide +kernel
theorem dX3_init_28 : decode cX3_init 28 = .ok (.new 13, 3) := by decide +kernel
theorem dX3_init_31 : decode cX3_init 31 = .ok (.dup, 1) := by decide +kernel
theorem dX3_init_32 : decode cX3_init 32 = .ok (.invokespecial 15, 3) := by decide +kernel
theorem dX3_init_35 : decode cX3_init 35 = .ok (.putfield 16, 3) := by decide +kernel
theorem dX3_init_38 : decode cX3_init 38 = .ok (.aload_n 0, 1) := by decide +kernel
theorem dX3_init_39 : decode cX3_init 39 = .ok (.new 13, 3) := by decide +kernel
theorem dX3_init_42 : decode cX3_init 42 = .ok (.dup, 1) := by decide +kernel
theorem dX3_init_43 : decode cX3_init 43 = .ok (.invokespecial 15, 3) := by decide +kernel
theorem dX3_init_46 : decode cX3_init 46 = .ok (.putfield 20, 3) := by decide +kernel
theorem dX3_init_49 : decode cX3_init 49 = .ok (.aload_n 0, 1) := by decide +kernel
theorem dX3_init_50 : decode cX3_init 50 = .ok (.new 13, 3) := by decide +kernel
theorem dX3_init_53 : decode cX3_init 53 = .ok (.dup, 1) := by decide +kernel
theorem dX3_init_54 : decode cX3_init 54 = .ok (.invokespecial 15, 3) := by decide +kernel
theorem dX3_init_57 : decode cX3_init 57 = .ok (.putfield 23, 3) := by decide +kernel
theorem dX3_init_60 : decode cX3_init 60 = .ok (.aload_n 0, 1) := by decide +kernel
theorem dX3_init_61 : decode cX3_init 61 = .ok (.new 26, 3) := by decide +kernel
theorem dX3_init_64 : decode cX3_init 64 = .ok (.dup, 1) := by decide +kernel
theorem dX3_init_65 : decode cX3_init 65 = .ok (.invokespecial 28, 3) := by decide +kernel
theorem dX3_init_68 : decode cX3_init 68 = .ok (.putfield 29, 3) := by decide +kernel
theorem dX3_init_71 : decode cX3_init 71 = .ok (.aload_n 0, 1) := by decide +kernel
theorem dX3_init_72 : decode cX3_init 72 = .ok (.new 33, 3) := by decide +kernel
theorem dX3_init_75 : decode cX3_init 75 = .ok (.dup, 1) := by decide +kernel
theorem dX3_init_76 : decode cX3_init 76 = .ok (.invokespecial 35, 3) := by decide +kernel
theorem dX3_init_79 : decode cX3_init 79 = .ok (.putfield 36, 3) := by decide +kernel
theorem dX3_init_82 : decode cX3_init 82 = .ok (.return_, 1) := by decide +kernel
theorem dX3_seed_0 : decode cX3_seed 0 = .ok (.iload_n 1, 1) := by decide +kernel
theorem dX3_seed_1 : decode cX3_seed 1 = .ok (.ifCond .lt 12, 3) := by decide +kernel
theorem dX3_seed_4 : decode cX3_seed 4 = .ok (.iload_n 1, 1) := by decide +kernel
theorem dX3_seed_5 : decode cX3_seed 5 = .ok (.aload_n 0, 1) := by decide +kernel
theorem dX3_seed_6 : decode cX3_seed 6 = .ok (.getfield 9, 3) := by decide +kernel
theorem dX3_seed_9 : decode cX3_seed 9 = .ok (.arraylength, 1) := by decide +kernel
theorem dX3_seed_10 : decode cX3_seed 10 = .ok (.if_icmp .lt 13, 3) := by decide +kernel
theorem dX3_seed_13 : decode cX3_seed 13 = .ok (.new 40, 3) := by decide +kernel
theorem dX3_seed_16 : decode cX3_seed 16 = .ok (.dup, 1) := by decide +kernel
theorem dX3_seed_17 : decode cX3_seed 17 = .ok (.ldc 42, 2) := by decide +kernel
theorem dX3_seed_19 : decode cX3_seed 19 = .ok (.invokespecial 44, 3) := by decide +kernel
theorem dX3_seed_22 : decode cX3_seed 22 = .ok (.athrow, 1) := by decide +kernel
theorem dX3_seed_23 : decode cX3_seed 23 = .ok (.aload_n 0, 1) := by decide +kernel
theorem dX3_seed_24 : decode cX3_seed 24 = .ok (.getfield 47, 3) := by decide +kernel
theorem dX3_seed_27 : decode cX3_seed 27 = .ok (.ifCond .eq 13, 3) := by decide +kernel
theorem dX3_seed_30 : decode cX3_seed 30 = .ok (.new 51, 3) := by decide +kernel
theorem dX3_seed_33 : decode cX3_seed 33 = .ok (.dup, 1) := by decide +kernel
theorem dX3_seed_34 : decode cX3_seed 34 = .ok (.ldc 53, 2) := by decide +kernel
theorem dX3_seed_36 : decode cX3_seed 36 = .ok (.invokespecial 55, 3) := by decide +kernel
theorem dX3_seed_39 : decode cX3_seed 39 = .ok (.athrow, 1) := by decide +kernel
theorem dX3_seed_40 : decode cX3_seed 40 = .ok (.aload_n 0, 1) := by decide +kernel
theorem dX3_seed_41 : decode cX3_seed 41 = .ok (.getfield 9, 3) := by decide +kernel
theorem dX3_seed_44 : decode cX3_seed 44 = .ok (.iload_n 1, 1) := by decide +kernel
theorem dX3_seed_45 : decode cX3_seed 45 = .ok (.iload_n 2, 1) := by decide +kernel
theorem dX3_seed_46 : decode cX3_seed 46 = .ok (.iastore, 1) := by decide +kernel
theorem dX3_seed_47 : decode cX3_seed 47 = .ok (.return_, 1) := by decide +kernel
theorem dX3_put_0 : decode cX3_put 0 = .ok (.aload_n 0, 1) := by decide +kernel
theorem dX3_put_1 : decode cX3_put 1 = .ok (.aload_n 0, 1) := by decide +kernel
theorem dX3_put_2 : decode cX3_put 2 = .ok (.getfield 16, 3) := by decide +kernel
theorem dX3_put_5 : decode cX3_put 5 = .ok (.aload_n 0, 1) := by decide +kernel
theorem dX3_put_6 : decode cX3_put 6 = .ok (.aload_n 0, 1) := by decide +kernel
theorem dX3_put_7 : decode cX3_put 7 = .ok (.getfield 16, 3) := by decide +kernel
theorem dX3_put_10 : decode cX3_put 10 = .ok (.invokevirtual 56, 3) := by decide +kernel
theorem dX3_put_13 : decode cX3_put 13 = .ok (.iload_n 1, 1) := by decide +kernel
theorem dX3_put_14 : decode cX3_put 14 = .ok (.iload_n 2, 1) := by decide +kernel
theorem dX3_put_15 : decode cX3_put 15 = .ok (.invokevirtual 60, 3) := by decide +kernel
theorem dX3_put_18 : decode cX3_put 18 = .ok (.istore_n 3, 1) := by decide +kernel
theorem dX3_put_19 : decode cX3_put 19 = .ok (.iconst 1, 1) := by decide +kernel
theorem dX3_put_20 : decode cX3_put 20 = .ok (.istore 4, 2) := by decide +kernel
theorem dX3_put_22 : decode cX3_put 22 = .ok (.iload 4, 2) := by decide +kernel
theorem dX3_put_24 : decode cX3_put 24 = .ok (.iconst 4, 1) := by decide +kernel
theorem dX3_put_25 : decode cX3_put 25 = .ok (.if_icmp .ge 38, 3) := by decide +kernel
theorem dX3_put_28 : decode cX3_put 28 = .ok (.iload_n 3, 1) := by decide +kernel
theorem dX3_put_29 : decode cX3_put 29 = .ok (.bipush (-2), 2) := by decide +kernel
theorem dX3_put_31 : decode cX3_put 31 = .ok (.if_icmp .ne 32, 3) := by decide +kernel
theorem dX3_put_34 : decode cX3_put 34 = .ok (.aload_n 0, 1) := by decide +kernel
theorem dX3_put_35 : decode cX3_put 35 = .ok (.aload_n 0, 1) := by decide +kernel
theorem dX3_put_36 : decode cX3_put 36 = .ok (.getfield 16, 3) := by decide +kernel
theorem dX3_put_39 : decode cX3_put 39 = .ok (.invokevirtual 64, 3) := by decide +kernel
theorem dX3_put_42 : decode cX3_put 42 = .ok (.iload 4, 2) := by decide +kernel
theorem dX3_put_44 : decode cX3_put 44 = .ok (.iadd, 1) := by decide +kernel
theorem dX3_put_45 : decode cX3_put 45 = .ok (.iconst 4, 1) := by decide +kernel
theorem dX3_put_46 : decode cX3_put 46 = .ok (.irem, 1) := by decide +kernel
theorem dX3_put_47 : decode cX3_put 47 = .ok (.iload_n 1, 1) := by decide +kernel
theorem dX3_put_48 : decode cX3_put 48 = .ok (.iload_n 2, 1) := by decide +kernel
theorem dX3_put_49 : decode cX3_put 49 = .ok (.invokevirtual 68, 3) := by decide +kernel
theorem dX3_put_52 : decode cX3_put 52 = .ok (.ifCond .eq 5, 3) := by decide +kernel
theorem dX3_put_55 : decode cX3_put 55 = .ok (.iconst 4, 1) := by decide +kernel
theorem dX3_put_56 : decode cX3_put 56 = .ok (.istore_n 3, 1) := by decide +kernel
theorem dX3_put_57 : decode cX3_put 57 = .ok (.iinc 4 1, 3) := by decide +kernel
theorem dX3_put_60 : decode cX3_put 60 = .ok (.goto (-38), 3) := by decide +kernel
theorem dX3_put_63 : decode cX3_put 63 = .ok (.iload_n 3, 1) := by decide +kernel
theorem dX3_put_64 : decode cX3_put 64 = .ok (.iconst 4, 1) := by decide +kernel
theorem dX3_put_65 : decode cX3_put 65 = .ok (.if_icmp .ne 10, 3) := by decide +kernel
theorem dX3_put_68 : decode cX3_put 68 = .ok (.aload_n 0, 1) := by decide +kernel
theorem dX3_put_69 : decode cX3_put 69 = .ok (.invokevirtual 72, 3) := by decide +kernel
theorem dX3_put_72 : decode cX3_put 72 = .ok (.goto 25, 3) := by decide +kernel
theorem dX3_put_75 : decode cX3_put 75 = .ok (.iload_n 3, 1) := by decide +kernel
theorem dX3_put_76 : decode cX3_put 76 = .ok (.iconst 2, 1) := by decide +kernel
theorem dX3_put_77 : decode cX3_put 77 = .ok (.if_icmp .ne 10, 3) := by decide +kernel
theorem dX3_put_80 : decode cX3_put 80 = .ok (.aload_n 0, 1) := by decide +kernel
theorem dX3_put_81 : decode cX3_put 81 = .ok (.invokevirtual 75, 3) := by decide +kernel
theorem dX3_put_84 : decode cX3_put 84 = .ok (.goto 13, 3) := by decide +kernel
theorem dX3_put_87 : decode cX3_put 87 = .ok (.iload_n 3, 1) := by decide +kernel
theorem dX3_put_88 : decode cX3_put 88 = .ok (.bipush (-2), 2) := by decide +kernel
theorem dX3_put_90 : decode cX3_put 90 = .ok (.if_icmp .eq 7, 3) := by decide +kernel
theorem dX3_put_93 : decode cX3_put 93 = .ok (.aload_n 0, 1) := by decide +kernel
theorem dX3_put_94 : decode cX3_put 94 = .ok (.invokevirtual 78, 3) := by decide +kernel
theorem dX3_put_97 : decode cX3_put 97 = .ok (.iload_n 3, 1) := by decide +kernel
theorem dX3_put_98 : decode cX3_put 98 = .ok (.ireturn, 1) := by decide +kernel
theorem dX3_has_0 : decode cX3_has 0 = .ok (.aload_n 0, 1) := by decide +kernel
theorem dX3_has_1 : decode cX3_has 1 = .ok (.getfield 16, 3) := by decide +kernel
theorem dX3_has_4 : decode cX3_has 4 = .ok (.aload_n 0, 1) := by decide +kernel
theorem dX3_has_5 : decode cX3_has 5 = .ok (.aload_n 0, 1) := by decide +kernel
theorem dX3_has_6 : decode cX3_has 6 = .ok (.getfield 16, 3) := by decide +kernel
theorem dX3_has_9 : decode cX3_has 9 = .ok (.invokevirtual 56, 3) := by decide +kernel
theorem dX3_has_12 : decode cX3_has 12 = .ok (.iload_n 1, 1) := by decide +kernel
theorem dX3_has_13 : decode cX3_has 13 = .ok (.invokestatic 81, 3) := by decide +kernel
theorem dX3_has_16 : decode cX3_has 16 = .ok (.iconst (-1), 1) := by decide +kernel
theorem dX3_has_17 : decode cX3_has 17 = .ok (.if_icmp .eq 7, 3) := by decide +kernel
theorem dX3_has_20 : decode cX3_has 20 = .ok (.iconst 1, 1) := by decide +kernel
theorem dX3_has_21 : decode cX3_has 21 = .ok (.goto 4, 3) := by decide +kernel
theorem dX3_has_24 : decode cX3_has 24 = .ok (.iconst 0, 1) := by decide +kernel
theorem dX3_has_25 : decode cX3_has 25 = .ok (.ireturn, 1) := by decide +kernel
theorem dX3_get_0 : decode cX3_get 0 = .ok (.aload_n 0, 1) := by decide +kernel
theorem dX3_get_1 : decode cX3_get 1 = .ok (.getfield 16, 3) := by decide +kernel
theorem dX3_get_4 : decode cX3_get 4 = .ok (.aload_n 0, 1) := by decide +kernel
theorem dX3_get_5 : decode cX3_get 5 = .ok (.aload_n 0, 1) := by decide +kernel
theorem dX3_get_6 : decode cX3_get 6 = .ok (.getfield 16, 3) := by decide +kernel
theorem dX3_get_9 : decode cX3_get 9 = .ok (.invokevirtual 56, 3) := by decide +kernel
theorem dX3_get_12 : decode cX3_get 12 = .ok (.iload_n 1, 1) := by decide +kernel
theorem dX3_get_13 : decode cX3_get 13 = .ok (.invokestatic 81, 3) := by decide +kernel
theorem dX3_get_16 : decode cX3_get 16 = .ok (.istore_n 2, 1) := by decide +kernel
theorem dX3_get_17 : decode cX3_get 17 = .ok (.iload_n 2, 1) := by decide +kernel
theorem dX3_get_18 : decode cX3_get 18 = .ok (.iconst (-1), 1) := by decide +kernel
theorem dX3_get_19 : decode cX3_get 19 = .ok (.if_icmp .ne 7, 3) := by decide +kernel
theorem dX3_get_22 : decode cX3_get 22 = .ok (.iconst 0, 1) := by decide +kernel
theorem dX3_get_23 : decode cX3_get 23 = .ok (.goto 11, 3) := by decide +kernel
theorem dX3_get_26 : decode cX3_get 26 = .ok (.aload_n 0, 1) := by decide +kernel
theorem dX3_get_27 : decode cX3_get 27 = .ok (.getfield 16, 3) := by decide +kernel
theorem dX3_get_30 : decode cX3_get 30 = .ok (.iload_n 2, 1) := by decide +kernel
theorem dX3_get_31 : decode cX3_get 31 = .ok (.invokevirtual 85, 3) := by decide +kernel
theorem dX3_get_34 : decode cX3_get 34 = .ok (.ireturn, 1) := by decide +kernel
theorem dX3_remove_0 : decode cX3_remove 0 = .ok (.aload_n 0, 1) := by decide +kernel
theorem dX3_remove_1 : decode cX3_remove 1 = .ok (.getfield 16, 3) := by decide +kernel
theorem dX3_remove_4 : decode cX3_remove 4 = .ok (.aload_n 0, 1) := by decide +kernel
theorem dX3_remove_5 : decode cX3_remove 5 = .ok (.aload_n 0, 1) := by decide +kernel
theorem dX3_remove_6 : decode cX3_remove 6 = .ok (.getfield 16, 3) := by decide +kernel
theorem dX3_remove_9 : decode cX3_remove 9 = .ok (.invokevirtual 56, 3) := by decide +kernel
theorem dX3_remove_12 : decode cX3_remove 12 = .ok (.iload_n 1, 1) := by decide +kernel
theorem dX3_remove_13 : decode cX3_remove 13 = .ok (.invokestatic 81, 3) := by decide +kernel
theorem dX3_remove_16 : decode cX3_remove 16 = .ok (.istore_n 2, 1) := by decide +kernel
theorem dX3_remove_17 : decode cX3_remove 17 = .ok (.iload_n 2, 1) := by decide +kernel
theorem dX3_remove_18 : decode cX3_remove 18 = .ok (.iconst (-1), 1) := by decide +kernel
theorem dX3_remove_19 : decode cX3_remove 19 = .ok (.if_icmp .ne 5, 3) := by decide +kernel
theorem dX3_remove_22 : decode cX3_remove 22 = .ok (.iconst 0, 1) := by decide +kernel
theorem dX3_remove_23 : decode cX3_remove 23 = .ok (.ireturn, 1) := by decide +kernel
theorem dX3_remove_24 : decode cX3_remove 24 = .ok (.aload_n 0, 1) := by decide +kernel
theorem dX3_remove_25 : decode cX3_remove 25 = .ok (.getfield 16, 3) := by decide +kernel
theorem dX3_remove_28 : decode cX3_remove 28 = .ok (.iload_n 2, 1) := by decide +kernel
theorem dX3_remove_29 : decode cX3_remove 29 = .ok (.invokevirtual 89, 3) := by decide +kernel
theorem dX3_remove_32 : decode cX3_remove 32 = .ok (.aload_n 0, 1) := by decide +kernel
theorem dX3_remove_33 : decode cX3_remove 33 = .ok (.iload_n 2, 1) := by decide +kernel
theorem dX3_remove_34 : decode cX3_remove 34 = .ok (.invokestatic 93, 3) := by decide +kernel
theorem dX3_remove_37 : decode cX3_remove 37 = .ok (.invokevirtual 96, 3) := by decide +kernel
theorem dX3_remove_40 : decode cX3_remove 40 = .ok (.iconst 1, 1) := by decide +kernel
theorem dX3_remove_41 : decode cX3_remove 41 = .ok (.ireturn, 1) := by decide +kernel
theorem dX3_sync_0 : decode cX3_sync 0 = .ok (.aload_n 0, 1) := by decide +kernel
theorem dX3_sync_1 : decode cX3_sync 1 = .ok (.getfield 29, 3) := by decide +kernel
theorem dX3_sync_4 : decode cX3_sync 4 = .ok (.invokevirtual 99, 3) := by decide +kernel
theorem dX3_sync_7 : decode cX3_sync 7 = .ok (.istore_n 1, 1) := by decide +kernel
theorem dX3_sync_8 : decode cX3_sync 8 = .ok (.aload_n 0, 1) := by decide +kernel
theorem dX3_sync_9 : decode cX3_sync 9 = .ok (.getfield 29, 3) := by decide +kernel
theorem dX3_sync_12 : decode cX3_sync 12 = .ok (.iload_n 1, 1) := by decide +kernel
theorem dX3_sync_13 : decode cX3_sync 13 = .ok (.aload_n 0, 1) := by decide +kernel
theorem dX3_sync_14 : decode cX3_sync 14 = .ok (.getfield 20, 3) := by decide +kernel
theorem dX3_sync_17 : decode cX3_sync 17 = .ok (.invokevirtual 102, 3) := by decide +kernel
theorem dX3_sync_20 : decode cX3_sync 20 = .ok (.iload_n 1, 1) := by decide +kernel
theorem dX3_sync_21 : decode cX3_sync 21 = .ok (.ireturn, 1) := by decide +kernel
theorem dX3_crash_0 : decode cX3_crash 0 = .ok (.iload_n 1, 1) := by decide +kernel
theorem dX3_crash_1 : decode cX3_crash 1 = .ok (.ifCond .ge 13, 3) := by decide +kernel
theorem dX3_crash_4 : decode cX3_crash 4 = .ok (.new 40, 3) := by decide +kernel
theorem dX3_crash_7 : decode cX3_crash 7 = .ok (.dup, 1) := by decide +kernel
theorem dX3_crash_8 : decode cX3_crash 8 = .ok (.ldc 106, 2) := by decide +kernel
theorem dX3_crash_10 : decode cX3_crash 10 = .ok (.invokespecial 44, 3) := by decide +kernel
theorem dX3_crash_13 : decode cX3_crash 13 = .ok (.athrow, 1) := by decide +kernel
theorem dX3_crash_14 : decode cX3_crash 14 = .ok (.aload_n 0, 1) := by decide +kernel
theorem dX3_crash_15 : decode cX3_crash 15 = .ok (.getfield 29, 3) := by decide +kernel
theorem dX3_crash_18 : decode cX3_crash 18 = .ok (.invokevirtual 99, 3) := by decide +kernel
theorem dX3_crash_21 : decode cX3_crash 21 = .ok (.istore_n 2, 1) := by decide +kernel
theorem dX3_crash_22 : decode cX3_crash 22 = .ok (.iload_n 1, 1) := by decide +kernel
theorem dX3_crash_23 : decode cX3_crash 23 = .ok (.iload_n 2, 1) := by decide +kernel
theorem dX3_crash_24 : decode cX3_crash 24 = .ok (.invokestatic 108, 3) := by decide +kernel
theorem dX3_crash_27 : decode cX3_crash 27 = .ok (.istore_n 3, 1) := by decide +kernel
theorem dX3_crash_28 : decode cX3_crash 28 = .ok (.aload_n 0, 1) := by decide +kernel
theorem dX3_crash_29 : decode cX3_crash 29 = .ok (.getfield 29, 3) := by decide +kernel
theorem dX3_crash_32 : decode cX3_crash 32 = .ok (.iload_n 3, 1) := by decide +kernel
theorem dX3_crash_33 : decode cX3_crash 33 = .ok (.aload_n 0, 1) := by decide +kernel
theorem dX3_crash_34 : decode cX3_crash 34 = .ok (.getfield 20, 3) := by decide +kernel
theorem dX3_crash_37 : decode cX3_crash 37 = .ok (.invokevirtual 102, 3) := by decide +kernel
theorem dX3_crash_40 : decode cX3_crash 40 = .ok (.aload_n 0, 1) := by decide +kernel
theorem dX3_crash_41 : decode cX3_crash 41 = .ok (.invokevirtual 114, 3) := by decide +kernel
theorem dX3_crash_44 : decode cX3_crash 44 = .ok (.iload_n 2, 1) := by decide +kernel
theorem dX3_crash_45 : decode cX3_crash 45 = .ok (.iload_n 3, 1) := by decide +kernel
theorem dX3_crash_46 : decode cX3_crash 46 = .ok (.isub, 1) := by decide +kernel
theorem dX3_crash_47 : decode cX3_crash 47 = .ok (.ireturn, 1) := by decide +kernel
theorem dX3_slot_0 : decode cX3_slot 0 = .ok (.iload_n 1, 1) := by decide +kernel
theorem dX3_slot_1 : decode cX3_slot 1 = .ok (.ifCond .lt 9, 3) := by decide +kernel
theorem dX3_slot_4 : decode cX3_slot 4 = .ok (.iload_n 1, 1) := by decide +kernel
theorem dX3_slot_5 : decode cX3_slot 5 = .ok (.bipush 9, 2) := by decide +kernel
theorem dX3_slot_7 : decode cX3_slot 7 = .ok (.if_icmp .lt 13, 3) := by decide +kernel
theorem dX3_slot_10 : decode cX3_slot 10 = .ok (.new 40, 3) := by decide +kernel
theorem dX3_slot_13 : decode cX3_slot 13 = .ok (.dup, 1) := by decide +kernel
theorem dX3_slot_14 : decode cX3_slot 14 = .ok (.ldc 117, 2) := by decide +kernel
theorem dX3_slot_16 : decode cX3_slot 16 = .ok (.invokespecial 44, 3) := by decide +kernel
theorem dX3_slot_19 : decode cX3_slot 19 = .ok (.athrow, 1) := by decide +kernel
theorem dX3_slot_20 : decode cX3_slot 20 = .ok (.iload_n 2, 1) := by decide +kernel
theorem dX3_slot_21 : decode cX3_slot 21 = .ok (.ifCond .lt 8, 3) := by decide +kernel
theorem dX3_slot_24 : decode cX3_slot 24 = .ok (.iload_n 2, 1) := by decide +kernel
theorem dX3_slot_25 : decode cX3_slot 25 = .ok (.iconst 4, 1) := by decide +kernel
theorem dX3_slot_26 : decode cX3_slot 26 = .ok (.if_icmp .lt 13, 3) := by decide +kernel
theorem dX3_slot_29 : decode cX3_slot 29 = .ok (.new 40, 3) := by decide +kernel
theorem dX3_slot_32 : decode cX3_slot 32 = .ok (.dup, 1) := by decide +kernel
theorem dX3_slot_33 : decode cX3_slot 33 = .ok (.ldc 119, 2) := by decide +kernel
theorem dX3_slot_35 : decode cX3_slot 35 = .ok (.invokespecial 44, 3) := by decide +kernel
theorem dX3_slot_38 : decode cX3_slot 38 = .ok (.athrow, 1) := by decide +kernel
theorem dX3_slot_39 : decode cX3_slot 39 = .ok (.iload_n 3, 1) := by decide +kernel
theorem dX3_slot_40 : decode cX3_slot 40 = .ok (.ifCond .lt 8, 3) := by decide +kernel
theorem dX3_slot_43 : decode cX3_slot 43 = .ok (.iload_n 3, 1) := by decide +kernel
theorem dX3_slot_44 : decode cX3_slot 44 = .ok (.iconst 2, 1) := by decide +kernel
theorem dX3_slot_45 : decode cX3_slot 45 = .ok (.if_icmp .le 13, 3) := by decide +kernel
theorem dX3_slot_48 : decode cX3_slot 48 = .ok (.new 40, 3) := by decide +kernel
theorem dX3_slot_51 : decode cX3_slot 51 = .ok (.dup, 1) := by decide +kernel
theorem dX3_slot_52 : decode cX3_slot 52 = .ok (.ldc 121, 2) := by decide +kernel
theorem dX3_slot_54 : decode cX3_slot 54 = .ok (.invokespecial 44, 3) := by decide +kernel
theorem dX3_slot_57 : decode cX3_slot 57 = .ok (.athrow, 1) := by decide +kernel
theorem dX3_slot_58 : decode cX3_slot 58 = .ok (.aload_n 0, 1) := by decide +kernel
theorem dX3_slot_59 : decode cX3_slot 59 = .ok (.getfield 16, 3) := by decide +kernel
theorem dX3_slot_62 : decode cX3_slot 62 = .ok (.iload_n 1, 1) := by decide +kernel
theorem dX3_slot_63 : decode cX3_slot 63 = .ok (.invokevirtual 123, 3) := by decide +kernel
theorem dX3_slot_66 : decode cX3_slot 66 = .ok (.iload_n 2, 1) := by decide +kernel
theorem dX3_slot_67 : decode cX3_slot 67 = .ok (.invokestatic 126, 3) := by decide +kernel
theorem dX3_slot_70 : decode cX3_slot 70 = .ok (.istore 4, 2) := by decide +kernel
theorem dX3_slot_72 : decode cX3_slot 72 = .ok (.aload_n 0, 1) := by decide +kernel
theorem dX3_slot_73 : decode cX3_slot 73 = .ok (.getfield 16, 3) := by decide +kernel
theorem dX3_slot_76 : decode cX3_slot 76 = .ok (.iload 4, 2) := by decide +kernel
theorem dX3_slot_78 : decode cX3_slot 78 = .ok (.invokevirtual 129, 3) := by decide +kernel
theorem dX3_slot_81 : decode cX3_slot 81 = .ok (.ifCond .ne 5, 3) := by decide +kernel
theorem dX3_slot_84 : decode cX3_slot 84 = .ok (.iconst 0, 1) := by decide +kernel
theorem dX3_slot_85 : decode cX3_slot 85 = .ok (.ireturn, 1) := by decide +kernel
theorem dX3_slot_86 : decode cX3_slot 86 = .ok (.iload_n 3, 1) := by decide +kernel
theorem dX3_slot_87 : decode cX3_slot 87 = .ok (.ifCond .ne 5, 3) := by decide +kernel
theorem dX3_slot_90 : decode cX3_slot 90 = .ok (.iconst 1, 1) := by decide +kernel
theorem dX3_slot_91 : decode cX3_slot 91 = .ok (.ireturn, 1) := by decide +kernel
theorem dX3_slot_92 : decode cX3_slot 92 = .ok (.iload_n 3, 1) := by decide +kernel
theorem dX3_slot_93 : decode cX3_slot 93 = .ok (.iconst 1, 1) := by decide +kernel
theorem dX3_slot_94 : decode cX3_slot 94 = .ok (.if_icmp .ne 15, 3) := by decide +kernel
theorem dX3_slot_97 : decode cX3_slot 97 = .ok (.aload_n 0, 1) := by decide +kernel
theorem dX3_slot_98 : decode cX3_slot 98 = .ok (.getfield 16, 3) := by decide +kernel
theorem dX3_slot_101 : decode cX3_slot 101 = .ok (.iload 4, 2) := by decide +kernel
theorem dX3_slot_103 : decode cX3_slot 103 = .ok (.invokevirtual 133, 3) := by decide +kernel
theorem dX3_slot_106 : decode cX3_slot 106 = .ok (.goto 12, 3) := by decide +kernel
theorem dX3_slot_109 : decode cX3_slot 109 = .ok (.aload_n 0, 1) := by decide +kernel
theorem dX3_slot_110 : decode cX3_slot 110 = .ok (.getfield 16, 3) := by decide +kernel
theorem dX3_slot_113 : decode cX3_slot 113 = .ok (.iload 4, 2) := by decide +kernel
theorem dX3_slot_115 : decode cX3_slot 115 = .ok (.invokevirtual 85, 3) := by decide +kernel
theorem dX3_slot_118 : decode cX3_slot 118 = .ok (.ireturn, 1) := by decide +kernel
theorem dX3_home_0 : decode cX3_home 0 = .ok (.aload_n 0, 1) := by decide +kernel
theorem dX3_home_1 : decode cX3_home 1 = .ok (.aload_n 0, 1) := by decide +kernel
theorem dX3_home_2 : decode cX3_home 2 = .ok (.getfield 16, 3) := by decide +kernel
theorem dX3_home_5 : decode cX3_home 5 = .ok (.invokevirtual 56, 3) := by decide +kernel
theorem dX3_home_8 : decode cX3_home 8 = .ok (.iload_n 1, 1) := by decide +kernel
theorem dX3_home_9 : decode cX3_home 9 = .ok (.iload_n 2, 1) := by decide +kernel
theorem dX3_home_10 : decode cX3_home 10 = .ok (.invokestatic 136, 3) := by decide +kernel
theorem dX3_home_13 : decode cX3_home 13 = .ok (.ireturn, 1) := by decide +kernel
theorem dX3_reads_0 : decode cX3_reads 0 = .ok (.aload_n 0, 1) := by decide +kernel
theorem dX3_reads_1 : decode cX3_reads 1 = .ok (.getfield 16, 3) := by decide +kernel
theorem dX3_reads_4 : decode cX3_reads 4 = .ok (.aload_n 0, 1) := by decide +kernel
theorem dX3_reads_5 : decode cX3_reads 5 = .ok (.aload_n 0, 1) := by decide +kernel
theorem dX3_reads_6 : decode cX3_reads 6 = .ok (.getfield 16, 3) := by decide +kernel
theorem dX3_reads_9 : decode cX3_reads 9 = .ok (.invokevirtual 56, 3) := by decide +kernel
theorem dX3_reads_12 : decode cX3_reads 12 = .ok (.iload_n 1, 1) := by decide +kernel
theorem dX3_reads_13 : decode cX3_reads 13 = .ok (.invokestatic 81, 3) := by decide +kernel
theorem dX3_reads_16 : decode cX3_reads 16 = .ok (.istore_n 2, 1) := by decide +kernel
theorem dX3_reads_17 : decode cX3_reads 17 = .ok (.iload_n 2, 1) := by decide +kernel
theorem dX3_reads_18 : decode cX3_reads 18 = .ok (.iconst (-1), 1) := by decide +kernel
theorem dX3_reads_19 : decode cX3_reads 19 = .ok (.if_icmp .eq 19, 3) := by decide +kernel
theorem dX3_reads_22 : decode cX3_reads 22 = .ok (.iload_n 2, 1) := by decide +kernel
theorem dX3_reads_23 : decode cX3_reads 23 = .ok (.invokestatic 93, 3) := by decide +kernel
theorem dX3_reads_26 : decode cX3_reads 26 = .ok (.aload_n 0, 1) := by decide +kernel
theorem dX3_reads_27 : decode cX3_reads 27 = .ok (.getfield 16, 3) := by decide +kernel
theorem dX3_reads_30 : decode cX3_reads 30 = .ok (.bipush 8, 2) := by decide +kernel
theorem dX3_reads_32 : decode cX3_reads 32 = .ok (.invokevirtual 123, 3) := by decide +kernel
theorem dX3_reads_35 : decode cX3_reads 35 = .ok (.if_icmp .ne 5, 3) := by decide +kernel
theorem dX3_reads_38 : decode cX3_reads 38 = .ok (.iconst 3, 1) := by decide +kernel
theorem dX3_reads_39 : decode cX3_reads 39 = .ok (.ireturn, 1) := by decide +kernel
theorem dX3_reads_40 : decode cX3_reads 40 = .ok (.iload_n 2, 1) := by decide +kernel
theorem dX3_reads_41 : decode cX3_reads 41 = .ok (.invokestatic 93, 3) := by decide +kernel
theorem dX3_reads_44 : decode cX3_reads 44 = .ok (.aload_n 0, 1) := by decide +kernel
theorem dX3_reads_45 : decode cX3_reads 45 = .ok (.getfield 16, 3) := by decide +kernel
theorem dX3_reads_48 : decode cX3_reads 48 = .ok (.aload_n 0, 1) := by decide +kernel
theorem dX3_reads_49 : decode cX3_reads 49 = .ok (.iload_n 1, 1) := by decide +kernel
theorem dX3_reads_50 : decode cX3_reads 50 = .ok (.iconst 0, 1) := by decide +kernel
theorem dX3_reads_51 : decode cX3_reads 51 = .ok (.invokevirtual 140, 3) := by decide +kernel
theorem dX3_reads_54 : decode cX3_reads 54 = .ok (.invokevirtual 123, 3) := by decide +kernel
theorem dX3_reads_57 : decode cX3_reads 57 = .ok (.if_icmp .ne 7, 3) := by decide +kernel
theorem dX3_reads_60 : decode cX3_reads 60 = .ok (.iconst 1, 1) := by decide +kernel
theorem dX3_reads_61 : decode cX3_reads 61 = .ok (.goto 4, 3) := by decide +kernel
theorem dX3_reads_64 : decode cX3_reads 64 = .ok (.iconst 2, 1) := by decide +kernel
theorem dX3_reads_65 : decode cX3_reads 65 = .ok (.ireturn, 1) := by decide +kernel
theorem dX3_count_0 : decode cX3_count 0 = .ok (.iload_n 1, 1) := by decide +kernel
theorem dX3_count_1 : decode cX3_count 1 = .ok (.tableswitch 117 0 8 #[51, 56, 64, 69, 86, 94, 102, 107, 112], 51) := by decide +kernel
theorem dX3_count_52 : decode cX3_count 52 = .ok (.aload_n 0, 1) := by decide +kernel
theorem dX3_count_53 : decode cX3_count 53 = .ok (.invokevirtual 144, 3) := by decide +kernel
theorem dX3_count_56 : decode cX3_count 56 = .ok (.ireturn, 1) := by decide +kernel
theorem dX3_count_57 : decode cX3_count 57 = .ok (.aload_n 0, 1) := by decide +kernel
theorem dX3_count_58 : decode cX3_count 58 = .ok (.getfield 29, 3) := by decide +kernel
theorem dX3_count_61 : decode cX3_count 61 = .ok (.invokevirtual 99, 3) := by decide +kernel
theorem dX3_count_64 : decode cX3_count 64 = .ok (.ireturn, 1) := by decide +kernel
theorem dX3_count_65 : decode cX3_count 65 = .ok (.aload_n 0, 1) := by decide +kernel
theorem dX3_count_66 : decode cX3_count 66 = .ok (.getfield 47, 3) := by decide +kernel
theorem dX3_count_69 : decode cX3_count 69 = .ok (.ireturn, 1) := by decide +kernel
theorem dX3_count_70 : decode cX3_count 70 = .ok (.aload_n 0, 1) := by decide +kernel
theorem dX3_count_71 : decode cX3_count 71 = .ok (.getfield 16, 3) := by decide +kernel
theorem dX3_count_74 : decode cX3_count 74 = .ok (.aload_n 0, 1) := by decide +kernel
theorem dX3_count_75 : decode cX3_count 75 = .ok (.getfield 16, 3) := by decide +kernel
theorem dX3_count_78 : decode cX3_count 78 = .ok (.bipush 8, 2) := by decide +kernel
theorem dX3_count_80 : decode cX3_count 80 = .ok (.invokevirtual 123, 3) := by decide +kernel
theorem dX3_count_83 : decode cX3_count 83 = .ok (.invokevirtual 147, 3) := by decide +kernel
theorem dX3_count_86 : decode cX3_count 86 = .ok (.ireturn, 1) := by decide +kernel
theorem dX3_count_87 : decode cX3_count 87 = .ok (.aload_n 0, 1) := by decide +kernel
theorem dX3_count_88 : decode cX3_count 88 = .ok (.getfield 16, 3) := by decide +kernel
theorem dX3_count_91 : decode cX3_count 91 = .ok (.invokevirtual 150, 3) := by decide +kernel
theorem dX3_count_94 : decode cX3_count 94 = .ok (.ireturn, 1) := by decide +kernel
theorem dX3_count_95 : decode cX3_count 95 = .ok (.aload_n 0, 1) := by decide +kernel
theorem dX3_count_96 : decode cX3_count 96 = .ok (.getfield 16, 3) := by decide +kernel
theorem dX3_count_99 : decode cX3_count 99 = .ok (.invokevirtual 64, 3) := by decide +kernel
theorem dX3_count_102 : decode cX3_count 102 = .ok (.ireturn, 1) := by decide +kernel
theorem dX3_count_103 : decode cX3_count 103 = .ok (.aload_n 0, 1) := by decide +kernel
theorem dX3_count_104 : decode cX3_count 104 = .ok (.getfield 153, 3) := by decide +kernel
theorem dX3_count_107 : decode cX3_count 107 = .ok (.ireturn, 1) := by decide +kernel
theorem dX3_count_108 : decode cX3_count 108 = .ok (.aload_n 0, 1) := by decide +kernel
theorem dX3_count_109 : decode cX3_count 109 = .ok (.getfield 156, 3) := by decide +kernel
theorem dX3_count_112 : decode cX3_count 112 = .ok (.ireturn, 1) := by decide +kernel
theorem dX3_count_113 : decode cX3_count 113 = .ok (.aload_n 0, 1) := by decide +kernel
theorem dX3_count_114 : decode cX3_count 114 = .ok (.getfield 159, 3) := by decide +kernel
theorem dX3_count_117 : decode cX3_count 117 = .ok (.ireturn, 1) := by decide +kernel
theorem dX3_count_118 : decode cX3_count 118 = .ok (.new 40, 3) := by decide +kernel
theorem dX3_count_121 : decode cX3_count 121 = .ok (.dup, 1) := by decide +kernel
theorem dX3_count_122 : decode cX3_count 122 = .ok (.ldc 162, 2) := by decide +kernel
theorem dX3_count_124 : decode cX3_count 124 = .ok (.invokespecial 44, 3) := by decide +kernel
theorem dX3_count_127 : decode cX3_count 127 = .ok (.athrow, 1) := by decide +kernel
theorem dX3_allKeys_0 : decode cX3_allKeys 0 = .ok (.iconst 0, 1) := by decide +kernel
theorem dX3_allKeys_1 : decode cX3_allKeys 1 = .ok (.istore_n 1, 1) := by decide +kernel
theorem dX3_allKeys_2 : decode cX3_allKeys 2 = .ok (.iconst 0, 1) := by decide +kernel
theorem dX3_allKeys_3 : decode cX3_allKeys 3 = .ok (.istore_n 2, 1) := by decide +kernel
theorem dX3_allKeys_4 : decode cX3_allKeys 4 = .ok (.iload_n 2, 1) := by decide +kernel
theorem dX3_allKeys_5 : decode cX3_allKeys 5 = .ok (.bipush 9, 2) := by decide +kernel
theorem dX3_allKeys_7 : decode cX3_allKeys 7 = .ok (.if_icmp .ge 27, 3) := by decide +kernel
theorem dX3_allKeys_10 : decode cX3_allKeys 10 = .ok (.iload_n 1, 1) := by decide +kernel
theorem dX3_allKeys_11 : decode cX3_allKeys 11 = .ok (.aload_n 0, 1) := by decide +kernel
