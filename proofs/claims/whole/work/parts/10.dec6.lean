theorem dX4_put_15 : decode cX4_put 15 = .ok (.getfield 128, 3) := by decide +kernel
theorem dX4_put_18 : decode cX4_put 18 = .ok (.iaload, 1) := by decide +kernel
theorem dX4_put_19 : decode cX4_put 19 = .ok (.iload_n 1, 1) := by decide +kernel
theorem dX4_put_20 : decode cX4_put 20 = .ok (.invokevirtual 176, 3) := by decide +kernel
theorem dX4_put_23 : decode cX4_put 23 = .ok (.istore_n 3, 1) := by decide +kernel
theorem dX4_put_24 : decode cX4_put 24 = .ok (.iload_n 3, 1) := by decide +kernel
theorem dX4_put_25 : decode cX4_put 25 = .ok (.ifCond .lt 13, 3) := by decide +kernel
theorem dX4_put_28 : decode cX4_put 28 = .ok (.aload_n 0, 1) := by decide +kernel
theorem dX4_put_29 : decode cX4_put 29 = .ok (.iload_n 3, 1) := by decide +kernel
theorem dX4_put_30 : decode cX4_put 30 = .ok (.iload_n 1, 1) := by decide +kernel
theorem dX4_put_31 : decode cX4_put 31 = .ok (.iload_n 2, 1) := by decide +kernel
theorem dX4_put_32 : decode cX4_put 32 = .ok (.iconst 1, 1) := by decide +kernel
theorem dX4_put_33 : decode cX4_put 33 = .ok (.invokevirtual 151, 3) := by decide +kernel
theorem dX4_put_36 : decode cX4_put 36 = .ok (.iconst 0, 1) := by decide +kernel
theorem dX4_put_37 : decode cX4_put 37 = .ok (.ireturn, 1) := by decide +kernel
theorem dX4_put_38 : decode cX4_put 38 = .ok (.aload_n 0, 1) := by decide +kernel
theorem dX4_put_39 : decode cX4_put 39 = .ok (.aload_n 0, 1) := by decide +kernel
theorem dX4_put_40 : decode cX4_put 40 = .ok (.getfield 125, 3) := by decide +kernel
theorem dX4_put_43 : decode cX4_put 43 = .ok (.aload_n 0, 1) := by decide +kernel
theorem dX4_put_44 : decode cX4_put 44 = .ok (.getfield 20, 3) := by decide +kernel
theorem dX4_put_47 : decode cX4_put 47 = .ok (.aload_n 0, 1) := by decide +kernel
theorem dX4_put_48 : decode cX4_put 48 = .ok (.getfield 128, 3) := by decide +kernel
theorem dX4_put_51 : decode cX4_put 51 = .ok (.iaload, 1) := by decide +kernel
theorem dX4_put_52 : decode cX4_put 52 = .ok (.iload_n 1, 1) := by decide +kernel
theorem dX4_put_53 : decode cX4_put 53 = .ok (.iload_n 2, 1) := by decide +kernel
theorem dX4_put_54 : decode cX4_put 54 = .ok (.iconst 1, 1) := by decide +kernel
theorem dX4_put_55 : decode cX4_put 55 = .ok (.invokevirtual 163, 3) := by decide +kernel
theorem dX4_put_58 : decode cX4_put 58 = .ok (.istore 4, 2) := by decide +kernel
theorem dX4_put_60 : decode cX4_put 60 = .ok (.iload 4, 2) := by decide +kernel
theorem dX4_put_62 : decode cX4_put 62 = .ok (.ifCond .le 8, 3) := by decide +kernel
theorem dX4_put_65 : decode cX4_put 65 = .ok (.iload 4, 2) := by decide +kernel
theorem dX4_put_67 : decode cX4_put 67 = .ok (.goto 9, 3) := by decide +kernel
theorem dX4_put_70 : decode cX4_put 70 = .ok (.aload_n 0, 1) := by decide +kernel
theorem dX4_put_71 : decode cX4_put 71 = .ok (.iload_n 1, 1) := by decide +kernel
theorem dX4_put_72 : decode cX4_put 72 = .ok (.iload_n 2, 1) := by decide +kernel
theorem dX4_put_73 : decode cX4_put 73 = .ok (.invokevirtual 179, 3) := by decide +kernel
theorem dX4_put_76 : decode cX4_put 76 = .ok (.ireturn, 1) := by decide +kernel
theorem dX4_has_0 : decode cX4_has 0 = .ok (.aload_n 0, 1) := by decide +kernel
theorem dX4_has_1 : decode cX4_has 1 = .ok (.iconst 0, 1) := by decide +kernel
theorem dX4_has_2 : decode cX4_has 2 = .ok (.putfield 74, 3) := by decide +kernel
theorem dX4_has_5 : decode cX4_has 5 = .ok (.aload_n 0, 1) := by decide +kernel
theorem dX4_has_6 : decode cX4_has 6 = .ok (.aload_n 0, 1) := by decide +kernel
theorem dX4_has_7 : decode cX4_has 7 = .ok (.getfield 125, 3) := by decide +kernel
theorem dX4_has_10 : decode cX4_has 10 = .ok (.aload_n 0, 1) := by decide +kernel
theorem dX4_has_11 : decode cX4_has 11 = .ok (.getfield 20, 3) := by decide +kernel
theorem dX4_has_14 : decode cX4_has 14 = .ok (.aload_n 0, 1) := by decide +kernel
theorem dX4_has_15 : decode cX4_has 15 = .ok (.getfield 128, 3) := by decide +kernel
theorem dX4_has_18 : decode cX4_has 18 = .ok (.iaload, 1) := by decide +kernel
theorem dX4_has_19 : decode cX4_has 19 = .ok (.iload_n 1, 1) := by decide +kernel
theorem dX4_has_20 : decode cX4_has 20 = .ok (.invokevirtual 176, 3) := by decide +kernel
theorem dX4_has_23 : decode cX4_has 23 = .ok (.ifCond .lt 7, 3) := by decide +kernel
theorem dX4_has_26 : decode cX4_has 26 = .ok (.iconst 1, 1) := by decide +kernel
theorem dX4_has_27 : decode cX4_has 27 = .ok (.goto 4, 3) := by decide +kernel
theorem dX4_has_30 : decode cX4_has 30 = .ok (.iconst 0, 1) := by decide +kernel
theorem dX4_has_31 : decode cX4_has 31 = .ok (.ireturn, 1) := by decide +kernel
theorem dX4_get_0 : decode cX4_get 0 = .ok (.aload_n 0, 1) := by decide +kernel
theorem dX4_get_1 : decode cX4_get 1 = .ok (.iconst 0, 1) := by decide +kernel
theorem dX4_get_2 : decode cX4_get 2 = .ok (.putfield 74, 3) := by decide +kernel
theorem dX4_get_5 : decode cX4_get 5 = .ok (.aload_n 0, 1) := by decide +kernel
theorem dX4_get_6 : decode cX4_get 6 = .ok (.aload_n 0, 1) := by decide +kernel
theorem dX4_get_7 : decode cX4_get 7 = .ok (.getfield 125, 3) := by decide +kernel
theorem dX4_get_10 : decode cX4_get 10 = .ok (.aload_n 0, 1) := by decide +kernel
theorem dX4_get_11 : decode cX4_get 11 = .ok (.getfield 20, 3) := by decide +kernel
theorem dX4_get_14 : decode cX4_get 14 = .ok (.aload_n 0, 1) := by decide +kernel
theorem dX4_get_15 : decode cX4_get 15 = .ok (.getfield 128, 3) := by decide +kernel
theorem dX4_get_18 : decode cX4_get 18 = .ok (.iaload, 1) := by decide +kernel
theorem dX4_get_19 : decode cX4_get 19 = .ok (.iload_n 1, 1) := by decide +kernel
theorem dX4_get_20 : decode cX4_get 20 = .ok (.invokevirtual 176, 3) := by decide +kernel
theorem dX4_get_23 : decode cX4_get 23 = .ok (.istore_n 2, 1) := by decide +kernel
theorem dX4_get_24 : decode cX4_get 24 = .ok (.iload_n 2, 1) := by decide +kernel
theorem dX4_get_25 : decode cX4_get 25 = .ok (.ifCond .ge 7, 3) := by decide +kernel
theorem dX4_get_28 : decode cX4_get 28 = .ok (.iconst 0, 1) := by decide +kernel
theorem dX4_get_29 : decode cX4_get 29 = .ok (.goto 9, 3) := by decide +kernel
theorem dX4_get_32 : decode cX4_get 32 = .ok (.aload_n 0, 1) := by decide +kernel
theorem dX4_get_33 : decode cX4_get 33 = .ok (.getfield 17, 3) := by decide +kernel
theorem dX4_get_36 : decode cX4_get 36 = .ok (.iload_n 2, 1) := by decide +kernel
theorem dX4_get_37 : decode cX4_get 37 = .ok (.iaload, 1) := by decide +kernel
theorem dX4_get_38 : decode cX4_get 38 = .ok (.ireturn, 1) := by decide +kernel
theorem dX4_remove_0 : decode cX4_remove 0 = .ok (.aload_n 0, 1) := by decide +kernel
theorem dX4_remove_1 : decode cX4_remove 1 = .ok (.iconst 0, 1) := by decide +kernel
theorem dX4_remove_2 : decode cX4_remove 2 = .ok (.putfield 74, 3) := by decide +kernel
theorem dX4_remove_5 : decode cX4_remove 5 = .ok (.aload_n 0, 1) := by decide +kernel
theorem dX4_remove_6 : decode cX4_remove 6 = .ok (.aload_n 0, 1) := by decide +kernel
theorem dX4_remove_7 : decode cX4_remove 7 = .ok (.getfield 125, 3) := by decide +kernel
theorem dX4_remove_10 : decode cX4_remove 10 = .ok (.aload_n 0, 1) := by decide +kernel
theorem dX4_remove_11 : decode cX4_remove 11 = .ok (.getfield 20, 3) := by decide +kernel
theorem dX4_remove_14 : decode cX4_remove 14 = .ok (.aload_n 0, 1) := by decide +kernel
theorem dX4_remove_15 : decode cX4_remove 15 = .ok (.getfield 128, 3) := by decide +kernel
theorem dX4_remove_18 : decode cX4_remove 18 = .ok (.iaload, 1) := by decide +kernel
theorem dX4_remove_19 : decode cX4_remove 19 = .ok (.iload_n 1, 1) := by decide +kernel
theorem dX4_remove_20 : decode cX4_remove 20 = .ok (.invokevirtual 176, 3) := by decide +kernel
theorem dX4_remove_23 : decode cX4_remove 23 = .ok (.istore_n 2, 1) := by decide +kernel
theorem dX4_remove_24 : decode cX4_remove 24 = .ok (.iload_n 2, 1) := by decide +kernel
theorem dX4_remove_25 : decode cX4_remove 25 = .ok (.ifCond .ge 5, 3) := by decide +kernel
theorem dX4_remove_28 : decode cX4_remove 28 = .ok (.iconst 0, 1) := by decide +kernel
theorem dX4_remove_29 : decode cX4_remove 29 = .ok (.ireturn, 1) := by decide +kernel
theorem dX4_remove_30 : decode cX4_remove 30 = .ok (.aload_n 0, 1) := by decide +kernel
theorem dX4_remove_31 : decode cX4_remove 31 = .ok (.getfield 7, 3) := by decide +kernel
theorem dX4_remove_34 : decode cX4_remove 34 = .ok (.iload_n 2, 1) := by decide +kernel
theorem dX4_remove_35 : decode cX4_remove 35 = .ok (.iconst 0, 1) := by decide +kernel
theorem dX4_remove_36 : decode cX4_remove 36 = .ok (.bastore, 1) := by decide +kernel
theorem dX4_remove_37 : decode cX4_remove 37 = .ok (.aload_n 0, 1) := by decide +kernel
theorem dX4_remove_38 : decode cX4_remove 38 = .ok (.iload_n 2, 1) := by decide +kernel
theorem dX4_remove_39 : decode cX4_remove 39 = .ok (.iconst 4, 1) := by decide +kernel
theorem dX4_remove_40 : decode cX4_remove 40 = .ok (.idiv, 1) := by decide +kernel
theorem dX4_remove_41 : decode cX4_remove 41 = .ok (.invokevirtual 131, 3) := by decide +kernel
theorem dX4_remove_44 : decode cX4_remove 44 = .ok (.iconst 1, 1) := by decide +kernel
theorem dX4_remove_45 : decode cX4_remove 45 = .ok (.ireturn, 1) := by decide +kernel
theorem dX4_seed_0 : decode cX4_seed 0 = .ok (.aload_n 0, 1) := by decide +kernel
theorem dX4_seed_1 : decode cX4_seed 1 = .ok (.iload_n 1, 1) := by decide +kernel
theorem dX4_seed_2 : decode cX4_seed 2 = .ok (.ifCond .lt 8, 3) := by decide +kernel
theorem dX4_seed_5 : decode cX4_seed 5 = .ok (.iload_n 1, 1) := by decide +kernel
theorem dX4_seed_6 : decode cX4_seed 6 = .ok (.iconst 3, 1) := by decide +kernel
theorem dX4_seed_7 : decode cX4_seed 7 = .ok (.if_icmp .le 7, 3) := by decide +kernel
theorem dX4_seed_10 : decode cX4_seed 10 = .ok (.iconst 1, 1) := by decide +kernel
theorem dX4_seed_11 : decode cX4_seed 11 = .ok (.goto 15, 3) := by decide +kernel
theorem dX4_seed_14 : decode cX4_seed 14 = .ok (.aload_n 0, 1) := by decide +kernel
theorem dX4_seed_15 : decode cX4_seed 15 = .ok (.getfield 115, 3) := by decide +kernel
theorem dX4_seed_18 : decode cX4_seed 18 = .ok (.ifCond .le 7, 3) := by decide +kernel
theorem dX4_seed_21 : decode cX4_seed 21 = .ok (.iconst 2, 1) := by decide +kernel
theorem dX4_seed_22 : decode cX4_seed 22 = .ok (.goto 4, 3) := by decide +kernel
theorem dX4_seed_25 : decode cX4_seed 25 = .ok (.iconst 0, 1) := by decide +kernel
theorem dX4_seed_26 : decode cX4_seed 26 = .ok (.invokevirtual 182, 3) := by decide +kernel
theorem dX4_seed_29 : decode cX4_seed 29 = .ok (.ifCond .eq 4, 3) := by decide +kernel
theorem dX4_seed_32 : decode cX4_seed 32 = .ok (.return_, 1) := by decide +kernel
theorem dX4_seed_33 : decode cX4_seed 33 = .ok (.aload_n 0, 1) := by decide +kernel
theorem dX4_seed_34 : decode cX4_seed 34 = .ok (.getfield 20, 3) := by decide +kernel
theorem dX4_seed_37 : decode cX4_seed 37 = .ok (.iload_n 1, 1) := by decide +kernel
theorem dX4_seed_38 : decode cX4_seed 38 = .ok (.iload_n 2, 1) := by decide +kernel
theorem dX4_seed_39 : decode cX4_seed 39 = .ok (.iastore, 1) := by decide +kernel
theorem dX4_seed_40 : decode cX4_seed 40 = .ok (.return_, 1) := by decide +kernel
theorem dX4_sync_0 : decode cX4_sync 0 = .ok (.aload_n 0, 1) := by decide +kernel
theorem dX4_sync_1 : decode cX4_sync 1 = .ok (.iconst 0, 1) := by decide +kernel
theorem dX4_sync_2 : decode cX4_sync 2 = .ok (.putfield 74, 3) := by decide +kernel
theorem dX4_sync_5 : decode cX4_sync 5 = .ok (.aload_n 0, 1) := by decide +kernel
theorem dX4_sync_6 : decode cX4_sync 6 = .ok (.invokevirtual 111, 3) := by decide +kernel
theorem dX4_sync_9 : decode cX4_sync 9 = .ok (.ireturn, 1) := by decide +kernel
theorem dX4_crash_0 : decode cX4_crash 0 = .ok (.aload_n 0, 1) := by decide +kernel
theorem dX4_crash_1 : decode cX4_crash 1 = .ok (.iload_n 1, 1) := by decide +kernel
theorem dX4_crash_2 : decode cX4_crash 2 = .ok (.ifCond .ge 7, 3) := by decide +kernel
theorem dX4_crash_5 : decode cX4_crash 5 = .ok (.iconst 1, 1) := by decide +kernel
theorem dX4_crash_6 : decode cX4_crash 6 = .ok (.goto 4, 3) := by decide +kernel
theorem dX4_crash_9 : decode cX4_crash 9 = .ok (.iconst 0, 1) := by decide +kernel
theorem dX4_crash_10 : decode cX4_crash 10 = .ok (.invokevirtual 182, 3) := by decide +kernel
theorem dX4_crash_13 : decode cX4_crash 13 = .ok (.ifCond .eq 5, 3) := by decide +kernel
theorem dX4_crash_16 : decode cX4_crash 16 = .ok (.iconst 0, 1) := by decide +kernel
theorem dX4_crash_17 : decode cX4_crash 17 = .ok (.ireturn, 1) := by decide +kernel
theorem dX4_crash_18 : decode cX4_crash 18 = .ok (.aload_n 0, 1) := by decide +kernel
theorem dX4_crash_19 : decode cX4_crash 19 = .ok (.getfield 104, 3) := by decide +kernel
theorem dX4_crash_22 : decode cX4_crash 22 = .ok (.iload_n 1, 1) := by decide +kernel
theorem dX4_crash_23 : decode cX4_crash 23 = .ok (.if_icmp .le 12, 3) := by decide +kernel
theorem dX4_crash_26 : decode cX4_crash 26 = .ok (.aload_n 0, 1) := by decide +kernel
theorem dX4_crash_27 : decode cX4_crash 27 = .ok (.getfield 104, 3) := by decide +kernel
theorem dX4_crash_30 : decode cX4_crash 30 = .ok (.iload_n 1, 1) := by decide +kernel
theorem dX4_crash_31 : decode cX4_crash 31 = .ok (.isub, 1) := by decide +kernel
theorem dX4_crash_32 : decode cX4_crash 32 = .ok (.goto 4, 3) := by decide +kernel
theorem dX4_crash_35 : decode cX4_crash 35 = .ok (.iconst 0, 1) := by decide +kernel
theorem dX4_crash_36 : decode cX4_crash 36 = .ok (.istore_n 2, 1) := by decide +kernel
theorem dX4_crash_37 : decode cX4_crash 37 = .ok (.iconst 0, 1) := by decide +kernel
theorem dX4_crash_38 : decode cX4_crash 38 = .ok (.istore_n 3, 1) := by decide +kernel
theorem dX4_crash_39 : decode cX4_crash 39 = .ok (.iload_n 3, 1) := by decide +kernel
theorem dX4_crash_40 : decode cX4_crash 40 = .ok (.aload_n 0, 1) := by decide +kernel
theorem dX4_crash_41 : decode cX4_crash 41 = .ok (.getfield 104, 3) := by decide +kernel
theorem dX4_crash_44 : decode cX4_crash 44 = .ok (.iload_n 2, 1) := by decide +kernel
theorem dX4_crash_45 : decode cX4_crash 45 = .ok (.isub, 1) := by decide +kernel
theorem dX4_crash_46 : decode cX4_crash 46 = .ok (.if_icmp .ge 14, 3) := by decide +kernel
theorem dX4_crash_49 : decode cX4_crash 49 = .ok (.aload_n 0, 1) := by decide +kernel
theorem dX4_crash_50 : decode cX4_crash 50 = .ok (.iload_n 3, 1) := by decide +kernel
theorem dX4_crash_51 : decode cX4_crash 51 = .ok (.invokevirtual 107, 3) := by decide +kernel
theorem dX4_crash_54 : decode cX4_crash 54 = .ok (.iinc 3 1, 3) := by decide +kernel
theorem dX4_crash_57 : decode cX4_crash 57 = .ok (.goto (-18), 3) := by decide +kernel
theorem dX4_crash_60 : decode cX4_crash 60 = .ok (.aload_n 0, 1) := by decide +kernel
theorem dX4_crash_61 : decode cX4_crash 61 = .ok (.iconst 0, 1) := by decide +kernel
theorem dX4_crash_62 : decode cX4_crash 62 = .ok (.putfield 104, 3) := by decide +kernel
theorem dX4_crash_65 : decode cX4_crash 65 = .ok (.iconst 0, 1) := by decide +kernel
theorem dX4_crash_66 : decode cX4_crash 66 = .ok (.istore_n 3, 1) := by decide +kernel
theorem dX4_crash_67 : decode cX4_crash 67 = .ok (.iload_n 3, 1) := by decide +kernel
theorem dX4_crash_68 : decode cX4_crash 68 = .ok (.aload_n 0, 1) := by decide +kernel
theorem dX4_crash_69 : decode cX4_crash 69 = .ok (.getfield 101, 3) := by decide +kernel
theorem dX4_crash_72 : decode cX4_crash 72 = .ok (.if_icmp .ge 55, 3) := by decide +kernel
theorem dX4_crash_75 : decode cX4_crash 75 = .ok (.aload_n 0, 1) := by decide +kernel
theorem dX4_crash_76 : decode cX4_crash 76 = .ok (.getfield 32, 3) := by decide +kernel
theorem dX4_crash_79 : decode cX4_crash 79 = .ok (.aload_n 0, 1) := by decide +kernel
theorem dX4_crash_80 : decode cX4_crash 80 = .ok (.getfield 41, 3) := by decide +kernel
theorem dX4_crash_83 : decode cX4_crash 83 = .ok (.iload_n 3, 1) := by decide +kernel
theorem dX4_crash_84 : decode cX4_crash 84 = .ok (.iaload, 1) := by decide +kernel
theorem dX4_crash_85 : decode cX4_crash 85 = .ok (.iconst 1, 1) := by decide +kernel
theorem dX4_crash_86 : decode cX4_crash 86 = .ok (.bastore, 1) := by decide +kernel
theorem dX4_crash_87 : decode cX4_crash 87 = .ok (.aload_n 0, 1) := by decide +kernel
theorem dX4_crash_88 : decode cX4_crash 88 = .ok (.getfield 35, 3) := by decide +kernel
theorem dX4_crash_91 : decode cX4_crash 91 = .ok (.aload_n 0, 1) := by decide +kernel
theorem dX4_crash_92 : decode cX4_crash 92 = .ok (.getfield 41, 3) := by decide +kernel
theorem dX4_crash_95 : decode cX4_crash 95 = .ok (.iload_n 3, 1) := by decide +kernel
theorem dX4_crash_96 : decode cX4_crash 96 = .ok (.iaload, 1) := by decide +kernel
theorem dX4_crash_97 : decode cX4_crash 97 = .ok (.aload_n 0, 1) := by decide +kernel
theorem dX4_crash_98 : decode cX4_crash 98 = .ok (.getfield 44, 3) := by decide +kernel
theorem dX4_crash_101 : decode cX4_crash 101 = .ok (.iload_n 3, 1) := by decide +kernel
theorem dX4_crash_102 : decode cX4_crash 102 = .ok (.iaload, 1) := by decide +kernel
theorem dX4_crash_103 : decode cX4_crash 103 = .ok (.iastore, 1) := by decide +kernel
theorem dX4_crash_104 : decode cX4_crash 104 = .ok (.aload_n 0, 1) := by decide +kernel
theorem dX4_crash_105 : decode cX4_crash 105 = .ok (.getfield 38, 3) := by decide +kernel
theorem dX4_crash_108 : decode cX4_crash 108 = .ok (.aload_n 0, 1) := by decide +kernel
theorem dX4_crash_109 : decode cX4_crash 109 = .ok (.getfield 41, 3) := by decide +kernel
theorem dX4_crash_112 : decode cX4_crash 112 = .ok (.iload_n 3, 1) := by decide +kernel
theorem dX4_crash_113 : decode cX4_crash 113 = .ok (.iaload, 1) := by decide +kernel
theorem dX4_crash_114 : decode cX4_crash 114 = .ok (.aload_n 0, 1) := by decide +kernel
theorem dX4_crash_115 : decode cX4_crash 115 = .ok (.getfield 47, 3) := by decide +kernel
theorem dX4_crash_118 : decode cX4_crash 118 = .ok (.iload_n 3, 1) := by decide +kernel
theorem dX4_crash_119 : decode cX4_crash 119 = .ok (.iaload, 1) := by decide +kernel
theorem dX4_crash_120 : decode cX4_crash 120 = .ok (.iastore, 1) := by decide +kernel
theorem dX4_crash_121 : decode cX4_crash 121 = .ok (.iinc 3 1, 3) := by decide +kernel
theorem dX4_crash_124 : decode cX4_crash 124 = .ok (.goto (-57), 3) := by decide +kernel
theorem dX4_crash_127 : decode cX4_crash 127 = .ok (.aload_n 0, 1) := by decide +kernel
theorem dX4_crash_128 : decode cX4_crash 128 = .ok (.aload_n 0, 1) := by decide +kernel
theorem dX4_crash_129 : decode cX4_crash 129 = .ok (.getfield 101, 3) := by decide +kernel
theorem dX4_crash_132 : decode cX4_crash 132 = .ok (.putfield 185, 3) := by decide +kernel
theorem dX4_crash_135 : decode cX4_crash 135 = .ok (.aload_n 0, 1) := by decide +kernel
theorem dX4_crash_136 : decode cX4_crash 136 = .ok (.iconst 0, 1) := by decide +kernel
theorem dX4_crash_137 : decode cX4_crash 137 = .ok (.putfield 101, 3) := by decide +kernel
theorem dX4_crash_140 : decode cX4_crash 140 = .ok (.iconst 0, 1) := by decide +kernel
theorem dX4_crash_141 : decode cX4_crash 141 = .ok (.istore_n 3, 1) := by decide +kernel
theorem dX4_crash_142 : decode cX4_crash 142 = .ok (.iload_n 3, 1) := by decide +kernel
theorem dX4_crash_143 : decode cX4_crash 143 = .ok (.bipush 72, 2) := by decide +kernel
theorem dX4_crash_145 : decode cX4_crash 145 = .ok (.if_icmp .ge 45, 3) := by decide +kernel
theorem dX4_crash_148 : decode cX4_crash 148 = .ok (.aload_n 0, 1) := by decide +kernel
theorem dX4_crash_149 : decode cX4_crash 149 = .ok (.getfield 7, 3) := by decide +kernel
theorem dX4_crash_152 : decode cX4_crash 152 = .ok (.iload_n 3, 1) := by decide +kernel
theorem dX4_crash_153 : decode cX4_crash 153 = .ok (.aload_n 0, 1) := by decide +kernel
theorem dX4_crash_154 : decode cX4_crash 154 = .ok (.getfield 32, 3) := by decide +kernel
theorem dX4_crash_157 : decode cX4_crash 157 = .ok (.iload_n 3, 1) := by decide +kernel
theorem dX4_crash_158 : decode cX4_crash 158 = .ok (.baload, 1) := by decide +kernel
theorem dX4_crash_159 : decode cX4_crash 159 = .ok (.bastore, 1) := by decide +kernel
theorem dX4_crash_160 : decode cX4_crash 160 = .ok (.aload_n 0, 1) := by decide +kernel
theorem dX4_crash_161 : decode cX4_crash 161 = .ok (.getfield 13, 3) := by decide +kernel
theorem dX4_crash_164 : decode cX4_crash 164 = .ok (.iload_n 3, 1) := by decide +kernel
theorem dX4_crash_165 : decode cX4_crash 165 = .ok (.aload_n 0, 1) := by decide +kernel
theorem dX4_crash_166 : decode cX4_crash 166 = .ok (.getfield 35, 3) := by decide +kernel
theorem dX4_crash_169 : decode cX4_crash 169 = .ok (.iload_n 3, 1) := by decide +kernel
theorem dX4_crash_170 : decode cX4_crash 170 = .ok (.iaload, 1) := by decide +kernel
theorem dX4_crash_171 : decode cX4_crash 171 = .ok (.iastore, 1) := by decide +kernel
theorem dX4_crash_172 : decode cX4_crash 172 = .ok (.aload_n 0, 1) := by decide +kernel
theorem dX4_crash_173 : decode cX4_crash 173 = .ok (.getfield 17, 3) := by decide +kernel
theorem dX4_crash_176 : decode cX4_crash 176 = .ok (.iload_n 3, 1) := by decide +kernel
theorem dX4_crash_177 : decode cX4_crash 177 = .ok (.aload_n 0, 1) := by decide +kernel
theorem dX4_crash_178 : decode cX4_crash 178 = .ok (.getfield 38, 3) := by decide +kernel
theorem dX4_crash_181 : decode cX4_crash 181 = .ok (.iload_n 3, 1) := by decide +kernel
theorem dX4_crash_182 : decode cX4_crash 182 = .ok (.iaload, 1) := by decide +kernel
theorem dX4_crash_183 : decode cX4_crash 183 = .ok (.iastore, 1) := by decide +kernel
theorem dX4_crash_184 : decode cX4_crash 184 = .ok (.iinc 3 1, 3) := by decide +kernel
theorem dX4_crash_187 : decode cX4_crash 187 = .ok (.goto (-45), 3) := by decide +kernel
theorem dX4_crash_190 : decode cX4_crash 190 = .ok (.aload_n 0, 1) := by decide +kernel
theorem dX4_crash_191 : decode cX4_crash 191 = .ok (.aload_n 0, 1) := by decide +kernel
theorem dX4_crash_192 : decode cX4_crash 192 = .ok (.getfield 95, 3) := by decide +kernel
theorem dX4_crash_195 : decode cX4_crash 195 = .ok (.putfield 125, 3) := by decide +kernel
theorem dX4_crash_198 : decode cX4_crash 198 = .ok (.aload_n 0, 1) := by decide +kernel
theorem dX4_crash_199 : decode cX4_crash 199 = .ok (.aload_n 0, 1) := by decide +kernel
theorem dX4_crash_200 : decode cX4_crash 200 = .ok (.getfield 98, 3) := by decide +kernel
theorem dX4_crash_203 : decode cX4_crash 203 = .ok (.putfield 128, 3) := by decide +kernel
theorem dX4_crash_206 : decode cX4_crash 206 = .ok (.iload_n 2, 1) := by decide +kernel
theorem dX4_crash_207 : decode cX4_crash 207 = .ok (.ireturn, 1) := by decide +kernel
theorem dX4_slot_0 : decode cX4_slot 0 = .ok (.iload_n 1, 1) := by decide +kernel
theorem dX4_slot_1 : decode cX4_slot 1 = .ok (.ifCond .lt 31, 3) := by decide +kernel
theorem dX4_slot_4 : decode cX4_slot 4 = .ok (.iload_n 1, 1) := by decide +kernel
theorem dX4_slot_5 : decode cX4_slot 5 = .ok (.bipush 9, 2) := by decide +kernel
theorem dX4_slot_7 : decode cX4_slot 7 = .ok (.if_icmp .ge 25, 3) := by decide +kernel
theorem dX4_slot_10 : decode cX4_slot 10 = .ok (.iload_n 2, 1) := by decide +kernel
theorem dX4_slot_11 : decode cX4_slot 11 = .ok (.ifCond .lt 21, 3) := by decide +kernel
theorem dX4_slot_14 : decode cX4_slot 14 = .ok (.iload_n 2, 1) := by decide +kernel
theorem dX4_slot_15 : decode cX4_slot 15 = .ok (.iconst 4, 1) := by decide +kernel
theorem dX4_slot_16 : decode cX4_slot 16 = .ok (.if_icmp .ge 16, 3) := by decide +kernel
theorem dX4_slot_19 : decode cX4_slot 19 = .ok (.iload_n 3, 1) := by decide +kernel
theorem dX4_slot_20 : decode cX4_slot 20 = .ok (.ifCond .lt 12, 3) := by decide +kernel
theorem dX4_slot_23 : decode cX4_slot 23 = .ok (.iload_n 3, 1) := by decide +kernel
theorem dX4_slot_24 : decode cX4_slot 24 = .ok (.iconst 2, 1) := by decide +kernel
theorem dX4_slot_25 : decode cX4_slot 25 = .ok (.if_icmp .gt 7, 3) := by decide +kernel
theorem dX4_slot_28 : decode cX4_slot 28 = .ok (.iconst 1, 1) := by decide +kernel
theorem dX4_slot_29 : decode cX4_slot 29 = .ok (.goto 4, 3) := by decide +kernel
theorem dX4_slot_32 : decode cX4_slot 32 = .ok (.iconst 0, 1) := by decide +kernel
theorem dX4_slot_33 : decode cX4_slot 33 = .ok (.istore 4, 2) := by decide +kernel
theorem dX4_slot_35 : decode cX4_slot 35 = .ok (.aload_n 0, 1) := by decide +kernel
theorem dX4_slot_36 : decode cX4_slot 36 = .ok (.iload 4, 2) := by decide +kernel
theorem dX4_slot_38 : decode cX4_slot 38 = .ok (.ifCond .eq 7, 3) := by decide +kernel
theorem dX4_slot_41 : decode cX4_slot 41 = .ok (.iconst 0, 1) := by decide +kernel
theorem dX4_slot_42 : decode cX4_slot 42 = .ok (.goto 4, 3) := by decide +kernel
theorem dX4_slot_45 : decode cX4_slot 45 = .ok (.iconst 1, 1) := by decide +kernel
theorem dX4_slot_46 : decode cX4_slot 46 = .ok (.invokevirtual 182, 3) := by decide +kernel
theorem dX4_slot_49 : decode cX4_slot 49 = .ok (.ifCond .eq 5, 3) := by decide +kernel
theorem dX4_slot_52 : decode cX4_slot 52 = .ok (.iconst 0, 1) := by decide +kernel
theorem dX4_slot_53 : decode cX4_slot 53 = .ok (.ireturn, 1) := by decide +kernel
theorem dX4_slot_54 : decode cX4_slot 54 = .ok (.aload_n 0, 1) := by decide +kernel
theorem dX4_slot_55 : decode cX4_slot 55 = .ok (.getfield 125, 3) := by decide +kernel
theorem dX4_slot_58 : decode cX4_slot 58 = .ok (.iload_n 1, 1) := by decide +kernel
theorem dX4_slot_59 : decode cX4_slot 59 = .ok (.iload_n 2, 1) := by decide +kernel
theorem dX4_slot_60 : decode cX4_slot 60 = .ok (.invokestatic 85, 3) := by decide +kernel
theorem dX4_slot_63 : decode cX4_slot 63 = .ok (.istore 5, 2) := by decide +kernel
theorem dX4_slot_65 : decode cX4_slot 65 = .ok (.aload_n 0, 1) := by decide +kernel
theorem dX4_slot_66 : decode cX4_slot 66 = .ok (.getfield 7, 3) := by decide +kernel
theorem dX4_slot_69 : decode cX4_slot 69 = .ok (.iload 5, 2) := by decide +kernel
theorem dX4_slot_71 : decode cX4_slot 71 = .ok (.baload, 1) := by decide +kernel
theorem dX4_slot_72 : decode cX4_slot 72 = .ok (.ifCond .ne 7, 3) := by decide +kernel
theorem dX4_slot_75 : decode cX4_slot 75 = .ok (.iconst 0, 1) := by decide +kernel
theorem dX4_slot_76 : decode cX4_slot 76 = .ok (.goto 33, 3) := by decide +kernel
theorem dX4_slot_79 : decode cX4_slot 79 = .ok (.iload_n 3, 1) := by decide +kernel
theorem dX4_slot_80 : decode cX4_slot 80 = .ok (.ifCond .ne 7, 3) := by decide +kernel
theorem dX4_slot_83 : decode cX4_slot 83 = .ok (.iconst 1, 1) := by decide +kernel
theorem dX4_slot_84 : decode cX4_slot 84 = .ok (.goto 25, 3) := by decide +kernel
theorem dX4_slot_87 : decode cX4_slot 87 = .ok (.iload_n 3, 1) := by decide +kernel
theorem dX4_slot_88 : decode cX4_slot 88 = .ok (.iconst 1, 1) := by decide +kernel
theorem dX4_slot_89 : decode cX4_slot 89 = .ok (.if_icmp .ne 13, 3) := by decide +kernel
theorem dX4_slot_92 : decode cX4_slot 92 = .ok (.aload_n 0, 1) := by decide +kernel
theorem dX4_slot_93 : decode cX4_slot 93 = .ok (.getfield 13, 3) := by decide +kernel
theorem dX4_slot_96 : decode cX4_slot 96 = .ok (.iload 5, 2) := by decide +kernel
theorem dX4_slot_98 : decode cX4_slot 98 = .ok (.iaload, 1) := by decide +kernel
theorem dX4_slot_99 : decode cX4_slot 99 = .ok (.goto 10, 3) := by decide +kernel
theorem dX4_slot_102 : decode cX4_slot 102 = .ok (.aload_n 0, 1) := by decide +kernel
theorem dX4_slot_103 : decode cX4_slot 103 = .ok (.getfield 17, 3) := by decide +kernel
theorem dX4_slot_106 : decode cX4_slot 106 = .ok (.iload 5, 2) := by decide +kernel
theorem dX4_slot_108 : decode cX4_slot 108 = .ok (.iaload, 1) := by decide +kernel
theorem dX4_slot_109 : decode cX4_slot 109 = .ok (.ireturn, 1) := by decide +kernel
theorem dX4_home_0 : decode cX4_home 0 = .ok (.aload_n 0, 1) := by decide +kernel
theorem dX4_home_1 : decode cX4_home 1 = .ok (.iconst 0, 1) := by decide +kernel
theorem dX4_home_2 : decode cX4_home 2 = .ok (.putfield 74, 3) := by decide +kernel
theorem dX4_home_5 : decode cX4_home 5 = .ok (.iload_n 1, 1) := by decide +kernel
theorem dX4_home_6 : decode cX4_home 6 = .ok (.aload_n 0, 1) := by decide +kernel
theorem dX4_home_7 : decode cX4_home 7 = .ok (.getfield 20, 3) := by decide +kernel
theorem dX4_home_10 : decode cX4_home 10 = .ok (.aload_n 0, 1) := by decide +kernel
theorem dX4_home_11 : decode cX4_home 11 = .ok (.getfield 128, 3) := by decide +kernel
theorem dX4_home_14 : decode cX4_home 14 = .ok (.iaload, 1) := by decide +kernel
theorem dX4_home_15 : decode cX4_home 15 = .ok (.iload_n 2, 1) := by decide +kernel
theorem dX4_home_16 : decode cX4_home 16 = .ok (.invokestatic 89, 3) := by decide +kernel
theorem dX4_home_19 : decode cX4_home 19 = .ok (.ireturn, 1) := by decide +kernel
theorem dX4_reads_0 : decode cX4_reads 0 = .ok (.aload_n 0, 1) := by decide +kernel
theorem dX4_reads_1 : decode cX4_reads 1 = .ok (.iconst 0, 1) := by decide +kernel
theorem dX4_reads_2 : decode cX4_reads 2 = .ok (.putfield 74, 3) := by decide +kernel
theorem dX4_reads_5 : decode cX4_reads 5 = .ok (.aload_n 0, 1) := by decide +kernel
theorem dX4_reads_6 : decode cX4_reads 6 = .ok (.aload_n 0, 1) := by decide +kernel
theorem dX4_reads_7 : decode cX4_reads 7 = .ok (.getfield 125, 3) := by decide +kernel
theorem dX4_reads_10 : decode cX4_reads 10 = .ok (.iload_n 1, 1) := by decide +kernel
theorem dX4_reads_11 : decode cX4_reads 11 = .ok (.aload_n 0, 1) := by decide +kernel
theorem dX4_reads_12 : decode cX4_reads 12 = .ok (.getfield 20, 3) := by decide +kernel
theorem dX4_reads_15 : decode cX4_reads 15 = .ok (.aload_n 0, 1) := by decide +kernel
theorem dX4_reads_16 : decode cX4_reads 16 = .ok (.getfield 128, 3) := by decide +kernel
theorem dX4_reads_19 : decode cX4_reads 19 = .ok (.iaload, 1) := by decide +kernel
theorem dX4_reads_20 : decode cX4_reads 20 = .ok (.iconst 0, 1) := by decide +kernel
theorem dX4_reads_21 : decode cX4_reads 21 = .ok (.invokestatic 89, 3) := by decide +kernel
theorem dX4_reads_24 : decode cX4_reads 24 = .ok (.iload_n 1, 1) := by decide +kernel
theorem dX4_reads_25 : decode cX4_reads 25 = .ok (.invokevirtual 92, 3) := by decide +kernel
theorem dX4_reads_28 : decode cX4_reads 28 = .ok (.ifCond .lt 7, 3) := by decide +kernel
theorem dX4_reads_31 : decode cX4_reads 31 = .ok (.iconst 1, 1) := by decide +kernel
theorem dX4_reads_32 : decode cX4_reads 32 = .ok (.goto 34, 3) := by decide +kernel
theorem dX4_reads_35 : decode cX4_reads 35 = .ok (.aload_n 0, 1) := by decide +kernel
theorem dX4_reads_36 : decode cX4_reads 36 = .ok (.aload_n 0, 1) := by decide +kernel
theorem dX4_reads_37 : decode cX4_reads 37 = .ok (.getfield 125, 3) := by decide +kernel
theorem dX4_reads_40 : decode cX4_reads 40 = .ok (.iload_n 1, 1) := by decide +kernel
theorem dX4_reads_41 : decode cX4_reads 41 = .ok (.aload_n 0, 1) := by decide +kernel
theorem dX4_reads_42 : decode cX4_reads 42 = .ok (.getfield 20, 3) := by decide +kernel
theorem dX4_reads_45 : decode cX4_reads 45 = .ok (.aload_n 0, 1) := by decide +kernel
theorem dX4_reads_46 : decode cX4_reads 46 = .ok (.getfield 128, 3) := by decide +kernel
theorem dX4_reads_49 : decode cX4_reads 49 = .ok (.iaload, 1) := by decide +kernel
theorem dX4_reads_50 : decode cX4_reads 50 = .ok (.iconst 1, 1) := by decide +kernel
theorem dX4_reads_51 : decode cX4_reads 51 = .ok (.invokestatic 89, 3) := by decide +kernel
theorem dX4_reads_54 : decode cX4_reads 54 = .ok (.iload_n 1, 1) := by decide +kernel
theorem dX4_reads_55 : decode cX4_reads 55 = .ok (.invokevirtual 92, 3) := by decide +kernel
theorem dX4_reads_58 : decode cX4_reads 58 = .ok (.ifCond .lt 7, 3) := by decide +kernel
theorem dX4_reads_61 : decode cX4_reads 61 = .ok (.iconst 2, 1) := by decide +kernel
theorem dX4_reads_62 : decode cX4_reads 62 = .ok (.goto 4, 3) := by decide +kernel
theorem dX4_reads_65 : decode cX4_reads 65 = .ok (.iconst 3, 1) := by decide +kernel
theorem dX4_reads_66 : decode cX4_reads 66 = .ok (.ireturn, 1) := by decide +kernel
theorem dX4_usedFrom_0 : decode cX4_usedFrom 0 = .ok (.iconst 0, 1) := by decide +kernel
theorem dX4_usedFrom_1 : decode cX4_usedFrom 1 = .ok (.istore_n 3, 1) := by decide +kernel
theorem dX4_usedFrom_2 : decode cX4_usedFrom 2 = .ok (.iload_n 1, 1) := by decide +kernel
theorem dX4_usedFrom_3 : decode cX4_usedFrom 3 = .ok (.istore 4, 2) := by decide +kernel
theorem dX4_usedFrom_5 : decode cX4_usedFrom 5 = .ok (.iload 4, 2) := by decide +kernel
theorem dX4_usedFrom_7 : decode cX4_usedFrom 7 = .ok (.iload_n 2, 1) := by decide +kernel
theorem dX4_usedFrom_8 : decode cX4_usedFrom 8 = .ok (.if_icmp .ge 27, 3) := by decide +kernel
theorem dX4_usedFrom_11 : decode cX4_usedFrom 11 = .ok (.aload_n 0, 1) := by decide +kernel
theorem dX4_usedFrom_12 : decode cX4_usedFrom 12 = .ok (.getfield 7, 3) := by decide +kernel
theorem dX4_usedFrom_15 : decode cX4_usedFrom 15 = .ok (.iload 4, 2) := by decide +kernel
theorem dX4_usedFrom_17 : decode cX4_usedFrom 17 = .ok (.baload, 1) := by decide +kernel
theorem dX4_usedFrom_18 : decode cX4_usedFrom 18 = .ok (.ifCond .eq 9, 3) := by decide +kernel
theorem dX4_usedFrom_21 : decode cX4_usedFrom 21 = .ok (.iload_n 3, 1) := by decide +kernel
theorem dX4_usedFrom_22 : decode cX4_usedFrom 22 = .ok (.iconst 1, 1) := by decide +kernel
theorem dX4_usedFrom_23 : decode cX4_usedFrom 23 = .ok (.iadd, 1) := by decide +kernel
theorem dX4_usedFrom_24 : decode cX4_usedFrom 24 = .ok (.goto 4, 3) := by decide +kernel
theorem dX4_usedFrom_27 : decode cX4_usedFrom 27 = .ok (.iload_n 3, 1) := by decide +kernel
theorem dX4_usedFrom_28 : decode cX4_usedFrom 28 = .ok (.istore_n 3, 1) := by decide +kernel
theorem dX4_usedFrom_29 : decode cX4_usedFrom 29 = .ok (.iinc 4 1, 3) := by decide +kernel
theorem dX4_usedFrom_32 : decode cX4_usedFrom 32 = .ok (.goto (-27), 3) := by decide +kernel
theorem dX4_usedFrom_35 : decode cX4_usedFrom 35 = .ok (.iload_n 3, 1) := by decide +kernel
theorem dX4_usedFrom_36 : decode cX4_usedFrom 36 = .ok (.ireturn, 1) := by decide +kernel
theorem dX4_count_0 : decode cX4_count 0 = .ok (.aload_n 0, 1) := by decide +kernel
theorem dX4_count_1 : decode cX4_count 1 = .ok (.iload_n 1, 1) := by decide +kernel
theorem dX4_count_2 : decode cX4_count 2 = .ok (.ifCond .lt 13, 3) := by decide +kernel
theorem dX4_count_5 : decode cX4_count 5 = .ok (.iload_n 1, 1) := by decide +kernel
theorem dX4_count_6 : decode cX4_count 6 = .ok (.bipush 8, 2) := by decide +kernel
theorem dX4_count_8 : decode cX4_count 8 = .ok (.if_icmp .gt 7, 3) := by decide +kernel
theorem dX4_count_11 : decode cX4_count 11 = .ok (.iconst 0, 1) := by decide +kernel
theorem dX4_count_12 : decode cX4_count 12 = .ok (.goto 4, 3) := by decide +kernel
theorem dX4_count_15 : decode cX4_count 15 = .ok (.iconst 1, 1) := by decide +kernel
theorem dX4_count_16 : decode cX4_count 16 = .ok (.invokevirtual 182, 3) := by decide +kernel
theorem dX4_count_19 : decode cX4_count 19 = .ok (.ifCond .eq 5, 3) := by decide +kernel
theorem dX4_count_22 : decode cX4_count 22 = .ok (.iconst 0, 1) := by decide +kernel
theorem dX4_count_23 : decode cX4_count 23 = .ok (.ireturn, 1) := by decide +kernel
theorem dX4_count_24 : decode cX4_count 24 = .ok (.iload_n 1, 1) := by decide +kernel
theorem dX4_count_25 : decode cX4_count 25 = .ok (.tableswitch 124 0 7 #[47, 69, 74, 79, 104, 109, 114, 119], 47) := by decide +kernel
theorem dX4_count_72 : decode cX4_count 72 = .ok (.aload_n 0, 1) := by decide +kernel
theorem dX4_count_73 : decode cX4_count 73 = .ok (.bipush 36, 2) := by decide +kernel
theorem dX4_count_75 : decode cX4_count 75 = .ok (.aload_n 0, 1) := by decide +kernel
theorem dX4_count_76 : decode cX4_count 76 = .ok (.getfield 125, 3) := by decide +kernel
theorem dX4_count_79 : decode cX4_count 79 = .ok (.imul, 1) := by decide +kernel
theorem dX4_count_80 : decode cX4_count 80 = .ok (.bipush 36, 2) := by decide +kernel
theorem dX4_count_82 : decode cX4_count 82 = .ok (.aload_n 0, 1) := by decide +kernel
theorem dX4_count_83 : decode cX4_count 83 = .ok (.getfield 125, 3) := by decide +kernel
theorem dX4_count_86 : decode cX4_count 86 = .ok (.imul, 1) := by decide +kernel
theorem dX4_count_87 : decode cX4_count 87 = .ok (.bipush 36, 2) := by decide +kernel
theorem dX4_count_89 : decode cX4_count 89 = .ok (.iadd, 1) := by decide +kernel
theorem dX4_count_90 : decode cX4_count 90 = .ok (.invokevirtual 188, 3) := by decide +kernel
theorem dX4_count_93 : decode cX4_count 93 = .ok (.ireturn, 1) := by decide +kernel
theorem dX4_count_94 : decode cX4_count 94 = .ok (.aload_n 0, 1) := by decide +kernel
theorem dX4_count_95 : decode cX4_count 95 = .ok (.getfield 104, 3) := by decide +kernel
