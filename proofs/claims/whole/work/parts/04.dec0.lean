theorem dX0_init_0 : decode cX0_init 0 = .ok (.aload_n 0, 1) := by decide +kernel
theorem dX0_init_1 : decode cX0_init 1 = .ok (.invokespecial 3, 3) := by decide +kernel
theorem dX0_init_4 : decode cX0_init 4 = .ok (.aload_n 0, 1) := by decide +kernel
theorem dX0_init_5 : decode cX0_init 5 = .ok (.sipush 440, 3) := by decide +kernel
theorem dX0_init_8 : decode cX0_init 8 = .ok (.newarray .int, 2) := by decide +kernel
theorem dX0_init_10 : decode cX0_init 10 = .ok (.putfield 9, 3) := by decide +kernel
theorem dX0_init_13 : decode cX0_init 13 = .ok (.return_, 1) := by decide +kernel
theorem dX0_setTold_0 : decode cX0_setTold 0 = .ok (.aload_n 0, 1) := by decide +kernel
theorem dX0_setTold_1 : decode cX0_setTold 1 = .ok (.getfield 9, 3) := by decide +kernel
theorem dX0_setTold_4 : decode cX0_setTold 4 = .ok (.bipush 18, 2) := by decide +kernel
theorem dX0_setTold_6 : decode cX0_setTold 6 = .ok (.iconst 0, 1) := by decide +kernel
theorem dX0_setTold_7 : decode cX0_setTold 7 = .ok (.invokestatic 15, 3) := by decide +kernel
theorem dX0_setTold_10 : decode cX0_setTold 10 = .ok (.ireturn, 1) := by decide +kernel
theorem dX0_seedTold_0 : decode cX0_seedTold 0 = .ok (.aload_n 0, 1) := by decide +kernel
theorem dX0_seedTold_1 : decode cX0_seedTold 1 = .ok (.getfield 9, 3) := by decide +kernel
theorem dX0_seedTold_4 : decode cX0_seedTold 4 = .ok (.bipush 18, 2) := by decide +kernel
theorem dX0_seedTold_6 : decode cX0_seedTold 6 = .ok (.iconst 1, 1) := by decide +kernel
theorem dX0_seedTold_7 : decode cX0_seedTold 7 = .ok (.invokestatic 15, 3) := by decide +kernel
theorem dX0_seedTold_10 : decode cX0_seedTold 10 = .ok (.ireturn, 1) := by decide +kernel
theorem dX0_tellRoot_0 : decode cX0_tellRoot 0 = .ok (.aload_n 0, 1) := by decide +kernel
theorem dX0_tellRoot_1 : decode cX0_tellRoot 1 = .ok (.getfield 9, 3) := by decide +kernel
theorem dX0_tellRoot_4 : decode cX0_tellRoot 4 = .ok (.bipush 18, 2) := by decide +kernel
theorem dX0_tellRoot_6 : decode cX0_tellRoot 6 = .ok (.iconst 0, 1) := by decide +kernel
theorem dX0_tellRoot_7 : decode cX0_tellRoot 7 = .ok (.iload_n 1, 1) := by decide +kernel
theorem dX0_tellRoot_8 : decode cX0_tellRoot 8 = .ok (.invokestatic 19, 3) := by decide +kernel
theorem dX0_tellRoot_11 : decode cX0_tellRoot 11 = .ok (.aload_n 0, 1) := by decide +kernel
theorem dX0_tellRoot_12 : decode cX0_tellRoot 12 = .ok (.getfield 9, 3) := by decide +kernel
theorem dX0_tellRoot_15 : decode cX0_tellRoot 15 = .ok (.bipush 18, 2) := by decide +kernel
theorem dX0_tellRoot_17 : decode cX0_tellRoot 17 = .ok (.iconst 1, 1) := by decide +kernel
theorem dX0_tellRoot_18 : decode cX0_tellRoot 18 = .ok (.iload_n 2, 1) := by decide +kernel
theorem dX0_tellRoot_19 : decode cX0_tellRoot 19 = .ok (.invokestatic 19, 3) := by decide +kernel
theorem dX0_tellRoot_22 : decode cX0_tellRoot 22 = .ok (.return_, 1) := by decide +kernel
theorem dX0_tellJournal_0 : decode cX0_tellJournal 0 = .ok (.aload_n 1, 1) := by decide +kernel
theorem dX0_tellJournal_1 : decode cX0_tellJournal 1 = .ok (.getfield 23, 3) := by decide +kernel
theorem dX0_tellJournal_4 : decode cX0_tellJournal 4 = .ok (.iconst 0, 1) := by decide +kernel
theorem dX0_tellJournal_5 : decode cX0_tellJournal 5 = .ok (.aload_n 0, 1) := by decide +kernel
theorem dX0_tellJournal_6 : decode cX0_tellJournal 6 = .ok (.getfield 9, 3) := by decide +kernel
theorem dX0_tellJournal_9 : decode cX0_tellJournal 9 = .ok (.bipush 19, 2) := by decide +kernel
theorem dX0_tellJournal_11 : decode cX0_tellJournal 11 = .ok (.invokestatic 26, 3) := by decide +kernel
theorem dX0_tellJournal_14 : decode cX0_tellJournal 14 = .ok (.return_, 1) := by decide +kernel
theorem dX0_emptyJournal_0 : decode cX0_emptyJournal 0 = .ok (.aload_n 0, 1) := by decide +kernel
theorem dX0_emptyJournal_1 : decode cX0_emptyJournal 1 = .ok (.getfield 9, 3) := by decide +kernel
theorem dX0_emptyJournal_4 : decode cX0_emptyJournal 4 = .ok (.bipush 19, 2) := by decide +kernel
theorem dX0_emptyJournal_6 : decode cX0_emptyJournal 6 = .ok (.iconst 0, 1) := by decide +kernel
theorem dX0_emptyJournal_7 : decode cX0_emptyJournal 7 = .ok (.iconst 0, 1) := by decide +kernel
theorem dX0_emptyJournal_8 : decode cX0_emptyJournal 8 = .ok (.invokestatic 19, 3) := by decide +kernel
theorem dX0_emptyJournal_11 : decode cX0_emptyJournal 11 = .ok (.return_, 1) := by decide +kernel
theorem dX0_rowInUse_0 : decode cX0_rowInUse 0 = .ok (.aload_n 0, 1) := by decide +kernel
theorem dX0_rowInUse_1 : decode cX0_rowInUse 1 = .ok (.invokevirtual 30, 3) := by decide +kernel
theorem dX0_rowInUse_4 : decode cX0_rowInUse 4 = .ok (.bipush 9, 2) := by decide +kernel
theorem dX0_rowInUse_6 : decode cX0_rowInUse 6 = .ok (.imul, 1) := by decide +kernel
theorem dX0_rowInUse_7 : decode cX0_rowInUse 7 = .ok (.iload_n 1, 1) := by decide +kernel
theorem dX0_rowInUse_8 : decode cX0_rowInUse 8 = .ok (.iadd, 1) := by decide +kernel
theorem dX0_rowInUse_9 : decode cX0_rowInUse 9 = .ok (.ireturn, 1) := by decide +kernel
theorem dX0_holds_0 : decode cX0_holds 0 = .ok (.aload_n 0, 1) := by decide +kernel
theorem dX0_holds_1 : decode cX0_holds 1 = .ok (.getfield 9, 3) := by decide +kernel
theorem dX0_holds_4 : decode cX0_holds 4 = .ok (.iload_n 1, 1) := by decide +kernel
theorem dX0_holds_5 : decode cX0_holds 5 = .ok (.invokestatic 34, 3) := by decide +kernel
theorem dX0_holds_8 : decode cX0_holds 8 = .ok (.iload_n 1, 1) := by decide +kernel
theorem dX0_holds_9 : decode cX0_holds 9 = .ok (.invokestatic 38, 3) := by decide +kernel
theorem dX0_holds_12 : decode cX0_holds 12 = .ok (.invokestatic 15, 3) := by decide +kernel
theorem dX0_holds_15 : decode cX0_holds 15 = .ok (.ifCond .eq 7, 3) := by decide +kernel
theorem dX0_holds_18 : decode cX0_holds 18 = .ok (.iconst 1, 1) := by decide +kernel
theorem dX0_holds_19 : decode cX0_holds 19 = .ok (.goto 4, 3) := by decide +kernel
theorem dX0_holds_22 : decode cX0_holds 22 = .ok (.iconst 0, 1) := by decide +kernel
theorem dX0_holds_23 : decode cX0_holds 23 = .ok (.ireturn, 1) := by decide +kernel
theorem dX0_keyAt_0 : decode cX0_keyAt 0 = .ok (.aload_n 0, 1) := by decide +kernel
theorem dX0_keyAt_1 : decode cX0_keyAt 1 = .ok (.getfield 9, 3) := by decide +kernel
theorem dX0_keyAt_4 : decode cX0_keyAt 4 = .ok (.iload_n 1, 1) := by decide +kernel
theorem dX0_keyAt_5 : decode cX0_keyAt 5 = .ok (.invokestatic 34, 3) := by decide +kernel
theorem dX0_keyAt_8 : decode cX0_keyAt 8 = .ok (.iload_n 1, 1) := by decide +kernel
theorem dX0_keyAt_9 : decode cX0_keyAt 9 = .ok (.invokestatic 38, 3) := by decide +kernel
theorem dX0_keyAt_12 : decode cX0_keyAt 12 = .ok (.iconst 1, 1) := by decide +kernel
theorem dX0_keyAt_13 : decode cX0_keyAt 13 = .ok (.iadd, 1) := by decide +kernel
theorem dX0_keyAt_14 : decode cX0_keyAt 14 = .ok (.invokestatic 15, 3) := by decide +kernel
theorem dX0_keyAt_17 : decode cX0_keyAt 17 = .ok (.ireturn, 1) := by decide +kernel
theorem dX0_valueAt_0 : decode cX0_valueAt 0 = .ok (.aload_n 0, 1) := by decide +kernel
theorem dX0_valueAt_1 : decode cX0_valueAt 1 = .ok (.getfield 9, 3) := by decide +kernel
theorem dX0_valueAt_4 : decode cX0_valueAt 4 = .ok (.iload_n 1, 1) := by decide +kernel
theorem dX0_valueAt_5 : decode cX0_valueAt 5 = .ok (.invokestatic 34, 3) := by decide +kernel
theorem dX0_valueAt_8 : decode cX0_valueAt 8 = .ok (.iload_n 1, 1) := by decide +kernel
theorem dX0_valueAt_9 : decode cX0_valueAt 9 = .ok (.invokestatic 38, 3) := by decide +kernel
theorem dX0_valueAt_12 : decode cX0_valueAt 12 = .ok (.iconst 2, 1) := by decide +kernel
theorem dX0_valueAt_13 : decode cX0_valueAt 13 = .ok (.iadd, 1) := by decide +kernel
theorem dX0_valueAt_14 : decode cX0_valueAt 14 = .ok (.invokestatic 15, 3) := by decide +kernel
theorem dX0_valueAt_17 : decode cX0_valueAt 17 = .ok (.ireturn, 1) := by decide +kernel
theorem dX0_fill_0 : decode cX0_fill 0 = .ok (.iload_n 1, 1) := by decide +kernel
theorem dX0_fill_1 : decode cX0_fill 1 = .ok (.invokestatic 34, 3) := by decide +kernel
theorem dX0_fill_4 : decode cX0_fill 4 = .ok (.istore 4, 2) := by decide +kernel
theorem dX0_fill_6 : decode cX0_fill 6 = .ok (.iload_n 1, 1) := by decide +kernel
theorem dX0_fill_7 : decode cX0_fill 7 = .ok (.invokestatic 38, 3) := by decide +kernel
theorem dX0_fill_10 : decode cX0_fill 10 = .ok (.istore 5, 2) := by decide +kernel
theorem dX0_fill_12 : decode cX0_fill 12 = .ok (.aload_n 0, 1) := by decide +kernel
theorem dX0_fill_13 : decode cX0_fill 13 = .ok (.getfield 9, 3) := by decide +kernel
theorem dX0_fill_16 : decode cX0_fill 16 = .ok (.iload 4, 2) := by decide +kernel
theorem dX0_fill_18 : decode cX0_fill 18 = .ok (.iload 5, 2) := by decide +kernel
theorem dX0_fill_20 : decode cX0_fill 20 = .ok (.iconst 1, 1) := by decide +kernel
theorem dX0_fill_21 : decode cX0_fill 21 = .ok (.invokestatic 19, 3) := by decide +kernel
theorem dX0_fill_24 : decode cX0_fill 24 = .ok (.aload_n 0, 1) := by decide +kernel
theorem dX0_fill_25 : decode cX0_fill 25 = .ok (.getfield 9, 3) := by decide +kernel
theorem dX0_fill_28 : decode cX0_fill 28 = .ok (.iload 4, 2) := by decide +kernel
theorem dX0_fill_30 : decode cX0_fill 30 = .ok (.iload 5, 2) := by decide +kernel
theorem dX0_fill_32 : decode cX0_fill 32 = .ok (.iconst 1, 1) := by decide +kernel
theorem dX0_fill_33 : decode cX0_fill 33 = .ok (.iadd, 1) := by decide +kernel
theorem dX0_fill_34 : decode cX0_fill 34 = .ok (.iload_n 2, 1) := by decide +kernel
theorem dX0_fill_35 : decode cX0_fill 35 = .ok (.invokestatic 19, 3) := by decide +kernel
theorem dX0_fill_38 : decode cX0_fill 38 = .ok (.aload_n 0, 1) := by decide +kernel
theorem dX0_fill_39 : decode cX0_fill 39 = .ok (.getfield 9, 3) := by decide +kernel
theorem dX0_fill_42 : decode cX0_fill 42 = .ok (.iload 4, 2) := by decide +kernel
theorem dX0_fill_44 : decode cX0_fill 44 = .ok (.iload 5, 2) := by decide +kernel
theorem dX0_fill_46 : decode cX0_fill 46 = .ok (.iconst 2, 1) := by decide +kernel
theorem dX0_fill_47 : decode cX0_fill 47 = .ok (.iadd, 1) := by decide +kernel
theorem dX0_fill_48 : decode cX0_fill 48 = .ok (.iload_n 3, 1) := by decide +kernel
theorem dX0_fill_49 : decode cX0_fill 49 = .ok (.invokestatic 19, 3) := by decide +kernel
theorem dX0_fill_52 : decode cX0_fill 52 = .ok (.return_, 1) := by decide +kernel
theorem dX0_fillAll_0 : decode cX0_fillAll 0 = .ok (.iconst 0, 1) := by decide +kernel
theorem dX0_fillAll_1 : decode cX0_fillAll 1 = .ok (.istore_n 2, 1) := by decide +kernel
theorem dX0_fillAll_2 : decode cX0_fillAll 2 = .ok (.iload_n 2, 1) := by decide +kernel
theorem dX0_fillAll_3 : decode cX0_fillAll 3 = .ok (.bipush 7, 2) := by decide +kernel
theorem dX0_fillAll_5 : decode cX0_fillAll 5 = .ok (.if_icmp .ge 36, 3) := by decide +kernel
theorem dX0_fillAll_8 : decode cX0_fillAll 8 = .ok (.iload_n 2, 1) := by decide +kernel
theorem dX0_fillAll_9 : decode cX0_fillAll 9 = .ok (.aload_n 1, 1) := by decide +kernel
theorem dX0_fillAll_10 : decode cX0_fillAll 10 = .ok (.invokevirtual 41, 3) := by decide +kernel
theorem dX0_fillAll_13 : decode cX0_fillAll 13 = .ok (.if_icmp .ge 28, 3) := by decide +kernel
theorem dX0_fillAll_16 : decode cX0_fillAll 16 = .ok (.aload_n 0, 1) := by decide +kernel
theorem dX0_fillAll_17 : decode cX0_fillAll 17 = .ok (.aload_n 1, 1) := by decide +kernel
theorem dX0_fillAll_18 : decode cX0_fillAll 18 = .ok (.iload_n 2, 1) := by decide +kernel
theorem dX0_fillAll_19 : decode cX0_fillAll 19 = .ok (.invokevirtual 44, 3) := by decide +kernel
theorem dX0_fillAll_22 : decode cX0_fillAll 22 = .ok (.aload_n 1, 1) := by decide +kernel
theorem dX0_fillAll_23 : decode cX0_fillAll 23 = .ok (.iload_n 2, 1) := by decide +kernel
theorem dX0_fillAll_24 : decode cX0_fillAll 24 = .ok (.invokevirtual 47, 3) := by decide +kernel
theorem dX0_fillAll_27 : decode cX0_fillAll 27 = .ok (.aload_n 1, 1) := by decide +kernel
theorem dX0_fillAll_28 : decode cX0_fillAll 28 = .ok (.iload_n 2, 1) := by decide +kernel
theorem dX0_fillAll_29 : decode cX0_fillAll 29 = .ok (.invokevirtual 50, 3) := by decide +kernel
theorem dX0_fillAll_32 : decode cX0_fillAll 32 = .ok (.invokevirtual 53, 3) := by decide +kernel
theorem dX0_fillAll_35 : decode cX0_fillAll 35 = .ok (.iinc 2 1, 3) := by decide +kernel
theorem dX0_fillAll_38 : decode cX0_fillAll 38 = .ok (.goto (-36), 3) := by decide +kernel
theorem dX0_fillAll_41 : decode cX0_fillAll 41 = .ok (.return_, 1) := by decide +kernel
theorem dX0_empty_0 : decode cX0_empty 0 = .ok (.aload_n 0, 1) := by decide +kernel
theorem dX0_empty_1 : decode cX0_empty 1 = .ok (.getfield 9, 3) := by decide +kernel
theorem dX0_empty_4 : decode cX0_empty 4 = .ok (.iload_n 1, 1) := by decide +kernel
theorem dX0_empty_5 : decode cX0_empty 5 = .ok (.invokestatic 34, 3) := by decide +kernel
theorem dX0_empty_8 : decode cX0_empty 8 = .ok (.iload_n 1, 1) := by decide +kernel
theorem dX0_empty_9 : decode cX0_empty 9 = .ok (.invokestatic 38, 3) := by decide +kernel
theorem dX0_empty_12 : decode cX0_empty 12 = .ok (.iconst 0, 1) := by decide +kernel
theorem dX0_empty_13 : decode cX0_empty 13 = .ok (.invokestatic 19, 3) := by decide +kernel
theorem dX0_empty_16 : decode cX0_empty 16 = .ok (.return_, 1) := by decide +kernel
theorem dX0_emptyAll_0 : decode cX0_emptyAll 0 = .ok (.iconst 0, 1) := by decide +kernel
theorem dX0_emptyAll_1 : decode cX0_emptyAll 1 = .ok (.istore_n 1, 1) := by decide +kernel
theorem dX0_emptyAll_2 : decode cX0_emptyAll 2 = .ok (.iload_n 1, 1) := by decide +kernel
theorem dX0_emptyAll_3 : decode cX0_emptyAll 3 = .ok (.aload_n 0, 1) := by decide +kernel
theorem dX0_emptyAll_4 : decode cX0_emptyAll 4 = .ok (.getfield 9, 3) := by decide +kernel
theorem dX0_emptyAll_7 : decode cX0_emptyAll 7 = .ok (.arraylength, 1) := by decide +kernel
theorem dX0_emptyAll_8 : decode cX0_emptyAll 8 = .ok (.if_icmp .ge 16, 3) := by decide +kernel
theorem dX0_emptyAll_11 : decode cX0_emptyAll 11 = .ok (.aload_n 0, 1) := by decide +kernel
theorem dX0_emptyAll_12 : decode cX0_emptyAll 12 = .ok (.getfield 9, 3) := by decide +kernel
theorem dX0_emptyAll_15 : decode cX0_emptyAll 15 = .ok (.iload_n 1, 1) := by decide +kernel
theorem dX0_emptyAll_16 : decode cX0_emptyAll 16 = .ok (.iconst 0, 1) := by decide +kernel
theorem dX0_emptyAll_17 : decode cX0_emptyAll 17 = .ok (.iastore, 1) := by decide +kernel
theorem dX0_emptyAll_18 : decode cX0_emptyAll 18 = .ok (.iinc 1 1, 3) := by decide +kernel
theorem dX0_emptyAll_21 : decode cX0_emptyAll 21 = .ok (.goto (-19), 3) := by decide +kernel
theorem dX0_emptyAll_24 : decode cX0_emptyAll 24 = .ok (.return_, 1) := by decide +kernel
theorem dX0_leastEmpty_0 : decode cX0_leastEmpty 0 = .ok (.iconst 0, 1) := by decide +kernel
theorem dX0_leastEmpty_1 : decode cX0_leastEmpty 1 = .ok (.istore_n 2, 1) := by decide +kernel
theorem dX0_leastEmpty_2 : decode cX0_leastEmpty 2 = .ok (.iload_n 2, 1) := by decide +kernel
theorem dX0_leastEmpty_3 : decode cX0_leastEmpty 3 = .ok (.iconst 4, 1) := by decide +kernel
theorem dX0_leastEmpty_4 : decode cX0_leastEmpty 4 = .ok (.if_icmp .ge 29, 3) := by decide +kernel
theorem dX0_leastEmpty_7 : decode cX0_leastEmpty 7 = .ok (.aload_n 0, 1) := by decide +kernel
theorem dX0_leastEmpty_8 : decode cX0_leastEmpty 8 = .ok (.getfield 9, 3) := by decide +kernel
theorem dX0_leastEmpty_11 : decode cX0_leastEmpty 11 = .ok (.iload_n 1, 1) := by decide +kernel
theorem dX0_leastEmpty_12 : decode cX0_leastEmpty 12 = .ok (.iload_n 2, 1) := by decide +kernel
theorem dX0_leastEmpty_13 : decode cX0_leastEmpty 13 = .ok (.iconst 3, 1) := by decide +kernel
theorem dX0_leastEmpty_14 : decode cX0_leastEmpty 14 = .ok (.imul, 1) := by decide +kernel
theorem dX0_leastEmpty_15 : decode cX0_leastEmpty 15 = .ok (.invokestatic 15, 3) := by decide +kernel
theorem dX0_leastEmpty_18 : decode cX0_leastEmpty 18 = .ok (.ifCond .ne 9, 3) := by decide +kernel
theorem dX0_leastEmpty_21 : decode cX0_leastEmpty 21 = .ok (.iload_n 1, 1) := by decide +kernel
theorem dX0_leastEmpty_22 : decode cX0_leastEmpty 22 = .ok (.iload_n 2, 1) := by decide +kernel
theorem dX0_leastEmpty_23 : decode cX0_leastEmpty 23 = .ok (.invokestatic 57, 3) := by decide +kernel
theorem dX0_leastEmpty_26 : decode cX0_leastEmpty 26 = .ok (.ireturn, 1) := by decide +kernel
theorem dX0_leastEmpty_27 : decode cX0_leastEmpty 27 = .ok (.iinc 2 1, 3) := by decide +kernel
theorem dX0_leastEmpty_30 : decode cX0_leastEmpty 30 = .ok (.goto (-28), 3) := by decide +kernel
theorem dX0_leastEmpty_33 : decode cX0_leastEmpty 33 = .ok (.iconst (-1), 1) := by decide +kernel
theorem dX0_leastEmpty_34 : decode cX0_leastEmpty 34 = .ok (.ireturn, 1) := by decide +kernel
theorem dX0_placeIn_0 : decode cX0_placeIn 0 = .ok (.iconst 0, 1) := by decide +kernel
theorem dX0_placeIn_1 : decode cX0_placeIn 1 = .ok (.istore_n 3, 1) := by decide +kernel
theorem dX0_placeIn_2 : decode cX0_placeIn 2 = .ok (.iload_n 3, 1) := by decide +kernel
theorem dX0_placeIn_3 : decode cX0_placeIn 3 = .ok (.iconst 4, 1) := by decide +kernel
theorem dX0_placeIn_4 : decode cX0_placeIn 4 = .ok (.if_icmp .ge 58, 3) := by decide +kernel
theorem dX0_placeIn_7 : decode cX0_placeIn 7 = .ok (.aload_n 0, 1) := by decide +kernel
theorem dX0_placeIn_8 : decode cX0_placeIn 8 = .ok (.getfield 9, 3) := by decide +kernel
theorem dX0_placeIn_11 : decode cX0_placeIn 11 = .ok (.iload_n 1, 1) := by decide +kernel
theorem dX0_placeIn_12 : decode cX0_placeIn 12 = .ok (.iload_n 3, 1) := by decide +kernel
theorem dX0_placeIn_13 : decode cX0_placeIn 13 = .ok (.iconst 3, 1) := by decide +kernel
theorem dX0_placeIn_14 : decode cX0_placeIn 14 = .ok (.imul, 1) := by decide +kernel
theorem dX0_placeIn_15 : decode cX0_placeIn 15 = .ok (.invokestatic 15, 3) := by decide +kernel
theorem dX0_placeIn_18 : decode cX0_placeIn 18 = .ok (.ifCond .eq 7, 3) := by decide +kernel
theorem dX0_placeIn_21 : decode cX0_placeIn 21 = .ok (.iconst 1, 1) := by decide +kernel
theorem dX0_placeIn_22 : decode cX0_placeIn 22 = .ok (.goto 4, 3) := by decide +kernel
theorem dX0_placeIn_25 : decode cX0_placeIn 25 = .ok (.iconst 0, 1) := by decide +kernel
theorem dX0_placeIn_26 : decode cX0_placeIn 26 = .ok (.istore 4, 2) := by decide +kernel
theorem dX0_placeIn_28 : decode cX0_placeIn 28 = .ok (.iload 4, 2) := by decide +kernel
theorem dX0_placeIn_30 : decode cX0_placeIn 30 = .ok (.ifCond .eq 26, 3) := by decide +kernel
theorem dX0_placeIn_33 : decode cX0_placeIn 33 = .ok (.aload_n 0, 1) := by decide +kernel
theorem dX0_placeIn_34 : decode cX0_placeIn 34 = .ok (.getfield 9, 3) := by decide +kernel
theorem dX0_placeIn_37 : decode cX0_placeIn 37 = .ok (.iload_n 1, 1) := by decide +kernel
theorem dX0_placeIn_38 : decode cX0_placeIn 38 = .ok (.iload_n 3, 1) := by decide +kernel
theorem dX0_placeIn_39 : decode cX0_placeIn 39 = .ok (.iconst 3, 1) := by decide +kernel
theorem dX0_placeIn_40 : decode cX0_placeIn 40 = .ok (.imul, 1) := by decide +kernel
theorem dX0_placeIn_41 : decode cX0_placeIn 41 = .ok (.iconst 1, 1) := by decide +kernel
theorem dX0_placeIn_42 : decode cX0_placeIn 42 = .ok (.iadd, 1) := by decide +kernel
theorem dX0_placeIn_43 : decode cX0_placeIn 43 = .ok (.invokestatic 15, 3) := by decide +kernel
theorem dX0_placeIn_46 : decode cX0_placeIn 46 = .ok (.iload_n 2, 1) := by decide +kernel
theorem dX0_placeIn_47 : decode cX0_placeIn 47 = .ok (.if_icmp .ne 9, 3) := by decide +kernel
theorem dX0_placeIn_50 : decode cX0_placeIn 50 = .ok (.iload_n 1, 1) := by decide +kernel
theorem dX0_placeIn_51 : decode cX0_placeIn 51 = .ok (.iload_n 3, 1) := by decide +kernel
theorem dX0_placeIn_52 : decode cX0_placeIn 52 = .ok (.invokestatic 57, 3) := by decide +kernel
theorem dX0_placeIn_55 : decode cX0_placeIn 55 = .ok (.ireturn, 1) := by decide +kernel
theorem dX0_placeIn_56 : decode cX0_placeIn 56 = .ok (.iinc 3 1, 3) := by decide +kernel
theorem dX0_placeIn_59 : decode cX0_placeIn 59 = .ok (.goto (-57), 3) := by decide +kernel
theorem dX0_placeIn_62 : decode cX0_placeIn 62 = .ok (.iconst (-1), 1) := by decide +kernel
theorem dX0_placeIn_63 : decode cX0_placeIn 63 = .ok (.ireturn, 1) := by decide +kernel
theorem dX0_keysIn_0 : decode cX0_keysIn 0 = .ok (.iconst 0, 1) := by decide +kernel
theorem dX0_keysIn_1 : decode cX0_keysIn 1 = .ok (.istore_n 2, 1) := by decide +kernel
theorem dX0_keysIn_2 : decode cX0_keysIn 2 = .ok (.iconst 0, 1) := by decide +kernel
theorem dX0_keysIn_3 : decode cX0_keysIn 3 = .ok (.istore_n 3, 1) := by decide +kernel
theorem dX0_keysIn_4 : decode cX0_keysIn 4 = .ok (.iload_n 3, 1) := by decide +kernel
theorem dX0_keysIn_5 : decode cX0_keysIn 5 = .ok (.iconst 4, 1) := by decide +kernel
theorem dX0_keysIn_6 : decode cX0_keysIn 6 = .ok (.if_icmp .ge 26, 3) := by decide +kernel
theorem dX0_keysIn_9 : decode cX0_keysIn 9 = .ok (.aload_n 0, 1) := by decide +kernel
theorem dX0_keysIn_10 : decode cX0_keysIn 10 = .ok (.getfield 9, 3) := by decide +kernel
theorem dX0_keysIn_13 : decode cX0_keysIn 13 = .ok (.iload_n 1, 1) := by decide +kernel
theorem dX0_keysIn_14 : decode cX0_keysIn 14 = .ok (.iload_n 3, 1) := by decide +kernel
theorem dX0_keysIn_15 : decode cX0_keysIn 15 = .ok (.iconst 3, 1) := by decide +kernel
theorem dX0_keysIn_16 : decode cX0_keysIn 16 = .ok (.imul, 1) := by decide +kernel
theorem dX0_keysIn_17 : decode cX0_keysIn 17 = .ok (.invokestatic 15, 3) := by decide +kernel
theorem dX0_keysIn_20 : decode cX0_keysIn 20 = .ok (.ifCond .eq 6, 3) := by decide +kernel
theorem dX0_keysIn_23 : decode cX0_keysIn 23 = .ok (.iinc 2 1, 3) := by decide +kernel
theorem dX0_keysIn_26 : decode cX0_keysIn 26 = .ok (.iinc 3 1, 3) := by decide +kernel
theorem dX0_keysIn_29 : decode cX0_keysIn 29 = .ok (.goto (-25), 3) := by decide +kernel
theorem dX0_keysIn_32 : decode cX0_keysIn 32 = .ok (.iload_n 2, 1) := by decide +kernel
theorem dX0_keysIn_33 : decode cX0_keysIn 33 = .ok (.ireturn, 1) := by decide +kernel
theorem dX0_takeRow_0 : decode cX0_takeRow 0 = .ok (.aload_n 1, 1) := by decide +kernel
theorem dX0_takeRow_1 : decode cX0_takeRow 1 = .ok (.getfield 9, 3) := by decide +kernel
theorem dX0_takeRow_4 : decode cX0_takeRow 4 = .ok (.iload_n 2, 1) := by decide +kernel
theorem dX0_takeRow_5 : decode cX0_takeRow 5 = .ok (.aload_n 0, 1) := by decide +kernel
theorem dX0_takeRow_6 : decode cX0_takeRow 6 = .ok (.getfield 9, 3) := by decide +kernel
theorem dX0_takeRow_9 : decode cX0_takeRow 9 = .ok (.iload_n 2, 1) := by decide +kernel
theorem dX0_takeRow_10 : decode cX0_takeRow 10 = .ok (.invokestatic 26, 3) := by decide +kernel
theorem dX0_takeRow_13 : decode cX0_takeRow 13 = .ok (.return_, 1) := by decide +kernel
theorem dX1_init_0 : decode cX1_init 0 = .ok (.aload_n 0, 1) := by decide +kernel
theorem dX1_init_1 : decode cX1_init 1 = .ok (.invokespecial 3, 3) := by decide +kernel
theorem dX1_init_4 : decode cX1_init 4 = .ok (.aload_n 0, 1) := by decide +kernel
theorem dX1_init_5 : decode cX1_init 5 = .ok (.bipush 22, 2) := by decide +kernel
theorem dX1_init_7 : decode cX1_init 7 = .ok (.newarray .int, 2) := by decide +kernel
theorem dX1_init_9 : decode cX1_init 9 = .ok (.putfield 9, 3) := by decide +kernel
theorem dX1_init_12 : decode cX1_init 12 = .ok (.return_, 1) := by decide +kernel
theorem dX1_size_0 : decode cX1_size 0 = .ok (.aload_n 0, 1) := by decide +kernel
theorem dX1_size_1 : decode cX1_size 1 = .ok (.getfield 9, 3) := by decide +kernel
theorem dX1_size_4 : decode cX1_size 4 = .ok (.iconst 0, 1) := by decide +kernel
theorem dX1_size_5 : decode cX1_size 5 = .ok (.iconst 0, 1) := by decide +kernel
theorem dX1_size_6 : decode cX1_size 6 = .ok (.invokestatic 15, 3) := by decide +kernel
theorem dX1_size_9 : decode cX1_size 9 = .ok (.ireturn, 1) := by decide +kernel
theorem dX1_placeAt_0 : decode cX1_placeAt 0 = .ok (.aload_n 0, 1) := by decide +kernel
theorem dX1_placeAt_1 : decode cX1_placeAt 1 = .ok (.getfield 9, 3) := by decide +kernel
theorem dX1_placeAt_4 : decode cX1_placeAt 4 = .ok (.iconst 0, 1) := by decide +kernel
theorem dX1_placeAt_5 : decode cX1_placeAt 5 = .ok (.iconst 1, 1) := by decide +kernel
theorem dX1_placeAt_6 : decode cX1_placeAt 6 = .ok (.iload_n 1, 1) := by decide +kernel
theorem dX1_placeAt_7 : decode cX1_placeAt 7 = .ok (.iconst 3, 1) := by decide +kernel
theorem dX1_placeAt_8 : decode cX1_placeAt 8 = .ok (.imul, 1) := by decide +kernel
theorem dX1_placeAt_9 : decode cX1_placeAt 9 = .ok (.iadd, 1) := by decide +kernel
theorem dX1_placeAt_10 : decode cX1_placeAt 10 = .ok (.invokestatic 15, 3) := by decide +kernel
theorem dX1_placeAt_13 : decode cX1_placeAt 13 = .ok (.ireturn, 1) := by decide +kernel
theorem dX1_keyAt_0 : decode cX1_keyAt 0 = .ok (.aload_n 0, 1) := by decide +kernel
theorem dX1_keyAt_1 : decode cX1_keyAt 1 = .ok (.getfield 9, 3) := by decide +kernel
theorem dX1_keyAt_4 : decode cX1_keyAt 4 = .ok (.iconst 0, 1) := by decide +kernel
theorem dX1_keyAt_5 : decode cX1_keyAt 5 = .ok (.iconst 2, 1) := by decide +kernel
theorem dX1_keyAt_6 : decode cX1_keyAt 6 = .ok (.iload_n 1, 1) := by decide +kernel
theorem dX1_keyAt_7 : decode cX1_keyAt 7 = .ok (.iconst 3, 1) := by decide +kernel
theorem dX1_keyAt_8 : decode cX1_keyAt 8 = .ok (.imul, 1) := by decide +kernel
theorem dX1_keyAt_9 : decode cX1_keyAt 9 = .ok (.iadd, 1) := by decide +kernel
theorem dX1_keyAt_10 : decode cX1_keyAt 10 = .ok (.invokestatic 15, 3) := by decide +kernel
theorem dX1_keyAt_13 : decode cX1_keyAt 13 = .ok (.ireturn, 1) := by decide +kernel
theorem dX1_valueAt_0 : decode cX1_valueAt 0 = .ok (.aload_n 0, 1) := by decide +kernel
theorem dX1_valueAt_1 : decode cX1_valueAt 1 = .ok (.getfield 9, 3) := by decide +kernel
theorem dX1_valueAt_4 : decode cX1_valueAt 4 = .ok (.iconst 0, 1) := by decide +kernel
theorem dX1_valueAt_5 : decode cX1_valueAt 5 = .ok (.iconst 3, 1) := by decide +kernel
theorem dX1_valueAt_6 : decode cX1_valueAt 6 = .ok (.iload_n 1, 1) := by decide +kernel
theorem dX1_valueAt_7 : decode cX1_valueAt 7 = .ok (.iconst 3, 1) := by decide +kernel
theorem dX1_valueAt_8 : decode cX1_valueAt 8 = .ok (.imul, 1) := by decide +kernel
theorem dX1_valueAt_9 : decode cX1_valueAt 9 = .ok (.iadd, 1) := by decide +kernel
theorem dX1_valueAt_10 : decode cX1_valueAt 10 = .ok (.invokestatic 15, 3) := by decide +kernel
theorem dX1_valueAt_13 : decode cX1_valueAt 13 = .ok (.ireturn, 1) := by decide +kernel
theorem dX1_tellOf_0 : decode cX1_tellOf 0 = .ok (.aload_n 0, 1) := by decide +kernel
theorem dX1_tellOf_1 : decode cX1_tellOf 1 = .ok (.getfield 9, 3) := by decide +kernel
theorem dX1_tellOf_4 : decode cX1_tellOf 4 = .ok (.iconst 0, 1) := by decide +kernel
theorem dX1_tellOf_5 : decode cX1_tellOf 5 = .ok (.iconst 0, 1) := by decide +kernel
theorem dX1_tellOf_6 : decode cX1_tellOf 6 = .ok (.invokestatic 15, 3) := by decide +kernel
theorem dX1_tellOf_9 : decode cX1_tellOf 9 = .ok (.istore_n 2, 1) := by decide +kernel
theorem dX1_tellOf_10 : decode cX1_tellOf 10 = .ok (.iconst 0, 1) := by decide +kernel
theorem dX1_tellOf_11 : decode cX1_tellOf 11 = .ok (.istore_n 3, 1) := by decide +kernel
theorem dX1_tellOf_12 : decode cX1_tellOf 12 = .ok (.iload_n 3, 1) := by decide +kernel
theorem dX1_tellOf_13 : decode cX1_tellOf 13 = .ok (.bipush 7, 2) := by decide +kernel
theorem dX1_tellOf_15 : decode cX1_tellOf 15 = .ok (.if_icmp .ge 33, 3) := by decide +kernel
theorem dX1_tellOf_18 : decode cX1_tellOf 18 = .ok (.iload_n 3, 1) := by decide +kernel
theorem dX1_tellOf_19 : decode cX1_tellOf 19 = .ok (.iload_n 2, 1) := by decide +kernel
theorem dX1_tellOf_20 : decode cX1_tellOf 20 = .ok (.if_icmp .ge 28, 3) := by decide +kernel
theorem dX1_tellOf_23 : decode cX1_tellOf 23 = .ok (.aload_n 0, 1) := by decide +kernel
theorem dX1_tellOf_24 : decode cX1_tellOf 24 = .ok (.getfield 9, 3) := by decide +kernel
theorem dX1_tellOf_27 : decode cX1_tellOf 27 = .ok (.iconst 0, 1) := by decide +kernel
theorem dX1_tellOf_28 : decode cX1_tellOf 28 = .ok (.iconst 1, 1) := by decide +kernel
theorem dX1_tellOf_29 : decode cX1_tellOf 29 = .ok (.iload_n 3, 1) := by decide +kernel
theorem dX1_tellOf_30 : decode cX1_tellOf 30 = .ok (.iconst 3, 1) := by decide +kernel
theorem dX1_tellOf_31 : decode cX1_tellOf 31 = .ok (.imul, 1) := by decide +kernel
theorem dX1_tellOf_32 : decode cX1_tellOf 32 = .ok (.iadd, 1) := by decide +kernel
theorem dX1_tellOf_33 : decode cX1_tellOf 33 = .ok (.invokestatic 15, 3) := by decide +kernel
theorem dX1_tellOf_36 : decode cX1_tellOf 36 = .ok (.iload_n 1, 1) := by decide +kernel
theorem dX1_tellOf_37 : decode cX1_tellOf 37 = .ok (.if_icmp .ne 5, 3) := by decide +kernel
theorem dX1_tellOf_40 : decode cX1_tellOf 40 = .ok (.iconst 1, 1) := by decide +kernel
theorem dX1_tellOf_41 : decode cX1_tellOf 41 = .ok (.ireturn, 1) := by decide +kernel
theorem dX1_tellOf_42 : decode cX1_tellOf 42 = .ok (.iinc 3 1, 3) := by decide +kernel
theorem dX1_tellOf_45 : decode cX1_tellOf 45 = .ok (.goto (-33), 3) := by decide +kernel
theorem dX1_tellOf_48 : decode cX1_tellOf 48 = .ok (.iconst 0, 1) := by decide +kernel
theorem dX1_tellOf_49 : decode cX1_tellOf 49 = .ok (.ireturn, 1) := by decide +kernel
theorem dX1_tellNothing_0 : decode cX1_tellNothing 0 = .ok (.aload_n 0, 1) := by decide +kernel
theorem dX1_tellNothing_1 : decode cX1_tellNothing 1 = .ok (.getfield 9, 3) := by decide +kernel
theorem dX1_tellNothing_4 : decode cX1_tellNothing 4 = .ok (.iconst 0, 1) := by decide +kernel
theorem dX1_tellNothing_5 : decode cX1_tellNothing 5 = .ok (.iconst 0, 1) := by decide +kernel
theorem dX1_tellNothing_6 : decode cX1_tellNothing 6 = .ok (.iconst 0, 1) := by decide +kernel
theorem dX1_tellNothing_7 : decode cX1_tellNothing 7 = .ok (.invokestatic 19, 3) := by decide +kernel
theorem dX1_tellNothing_10 : decode cX1_tellNothing 10 = .ok (.return_, 1) := by decide +kernel
theorem dX1_tellOne_0 : decode cX1_tellOne 0 = .ok (.aload_n 0, 1) := by decide +kernel
theorem dX1_tellOne_1 : decode cX1_tellOne 1 = .ok (.invokevirtual 23, 3) := by decide +kernel
theorem dX1_tellOne_4 : decode cX1_tellOne 4 = .ok (.aload_n 0, 1) := by decide +kernel
theorem dX1_tellOne_5 : decode cX1_tellOne 5 = .ok (.iload_n 1, 1) := by decide +kernel
theorem dX1_tellOne_6 : decode cX1_tellOne 6 = .ok (.iload_n 2, 1) := by decide +kernel
theorem dX1_tellOne_7 : decode cX1_tellOne 7 = .ok (.iload_n 3, 1) := by decide +kernel
theorem dX1_tellOne_8 : decode cX1_tellOne 8 = .ok (.invokevirtual 26, 3) := by decide +kernel
theorem dX1_tellOne_11 : decode cX1_tellOne 11 = .ok (.return_, 1) := by decide +kernel
theorem dX1_add_0 : decode cX1_add 0 = .ok (.aload_n 0, 1) := by decide +kernel
theorem dX1_add_1 : decode cX1_add 1 = .ok (.invokevirtual 30, 3) := by decide +kernel
theorem dX1_add_4 : decode cX1_add 4 = .ok (.istore 4, 2) := by decide +kernel
theorem dX1_add_6 : decode cX1_add 6 = .ok (.iload 4, 2) := by decide +kernel
theorem dX1_add_8 : decode cX1_add 8 = .ok (.bipush 7, 2) := by decide +kernel
theorem dX1_add_10 : decode cX1_add 10 = .ok (.if_icmp .ge 61, 3) := by decide +kernel
theorem dX1_add_13 : decode cX1_add 13 = .ok (.aload_n 0, 1) := by decide +kernel
theorem dX1_add_14 : decode cX1_add 14 = .ok (.getfield 9, 3) := by decide +kernel
theorem dX1_add_17 : decode cX1_add 17 = .ok (.iconst 0, 1) := by decide +kernel
theorem dX1_add_18 : decode cX1_add 18 = .ok (.iconst 1, 1) := by decide +kernel
theorem dX1_add_19 : decode cX1_add 19 = .ok (.iload 4, 2) := by decide +kernel
theorem dX1_add_21 : decode cX1_add 21 = .ok (.iconst 3, 1) := by decide +kernel
theorem dX1_add_22 : decode cX1_add 22 = .ok (.imul, 1) := by decide +kernel
theorem dX1_add_23 : decode cX1_add 23 = .ok (.iadd, 1) := by decide +kernel
theorem dX1_add_24 : decode cX1_add 24 = .ok (.iload_n 1, 1) := by decide +kernel
theorem dX1_add_25 : decode cX1_add 25 = .ok (.invokestatic 19, 3) := by decide +kernel
theorem dX1_add_28 : decode cX1_add 28 = .ok (.aload_n 0, 1) := by decide +kernel
theorem dX1_add_29 : decode cX1_add 29 = .ok (.getfield 9, 3) := by decide +kernel
theorem dX1_add_32 : decode cX1_add 32 = .ok (.iconst 0, 1) := by decide +kernel
theorem dX1_add_33 : decode cX1_add 33 = .ok (.iconst 2, 1) := by decide +kernel
theorem dX1_add_34 : decode cX1_add 34 = .ok (.iload 4, 2) := by decide +kernel
theorem dX1_add_36 : decode cX1_add 36 = .ok (.iconst 3, 1) := by decide +kernel
theorem dX1_add_37 : decode cX1_add 37 = .ok (.imul, 1) := by decide +kernel
theorem dX1_add_38 : decode cX1_add 38 = .ok (.iadd, 1) := by decide +kernel
theorem dX1_add_39 : decode cX1_add 39 = .ok (.iload_n 2, 1) := by decide +kernel
theorem dX1_add_40 : decode cX1_add 40 = .ok (.invokestatic 19, 3) := by decide +kernel
theorem dX1_add_43 : decode cX1_add 43 = .ok (.aload_n 0, 1) := by decide +kernel
theorem dX1_add_44 : decode cX1_add 44 = .ok (.getfield 9, 3) := by decide +kernel
theorem dX1_add_47 : decode cX1_add 47 = .ok (.iconst 0, 1) := by decide +kernel
theorem dX1_add_48 : decode cX1_add 48 = .ok (.iconst 3, 1) := by decide +kernel
theorem dX1_add_49 : decode cX1_add 49 = .ok (.iload 4, 2) := by decide +kernel
theorem dX1_add_51 : decode cX1_add 51 = .ok (.iconst 3, 1) := by decide +kernel
theorem dX1_add_52 : decode cX1_add 52 = .ok (.imul, 1) := by decide +kernel
theorem dX1_add_53 : decode cX1_add 53 = .ok (.iadd, 1) := by decide +kernel
theorem dX1_add_54 : decode cX1_add 54 = .ok (.iload_n 3, 1) := by decide +kernel
theorem dX1_add_55 : decode cX1_add 55 = .ok (.invokestatic 19, 3) := by decide +kernel
theorem dX1_add_58 : decode cX1_add 58 = .ok (.aload_n 0, 1) := by decide +kernel
theorem dX1_add_59 : decode cX1_add 59 = .ok (.getfield 9, 3) := by decide +kernel
theorem dX1_add_62 : decode cX1_add 62 = .ok (.iconst 0, 1) := by decide +kernel
theorem dX1_add_63 : decode cX1_add 63 = .ok (.iconst 0, 1) := by decide +kernel
theorem dX1_add_64 : decode cX1_add 64 = .ok (.iload 4, 2) := by decide +kernel
theorem dX1_add_66 : decode cX1_add 66 = .ok (.iconst 1, 1) := by decide +kernel
theorem dX1_add_67 : decode cX1_add 67 = .ok (.iadd, 1) := by decide +kernel
theorem dX1_add_68 : decode cX1_add 68 = .ok (.invokestatic 19, 3) := by decide +kernel
theorem dX1_add_71 : decode cX1_add 71 = .ok (.return_, 1) := by decide +kernel
theorem dX1_takeJournal_0 : decode cX1_takeJournal 0 = .ok (.aload_n 1, 1) := by decide +kernel
theorem dX1_takeJournal_1 : decode cX1_takeJournal 1 = .ok (.getfield 34, 3) := by decide +kernel
theorem dX1_takeJournal_4 : decode cX1_takeJournal 4 = .ok (.bipush 19, 2) := by decide +kernel
theorem dX1_takeJournal_6 : decode cX1_takeJournal 6 = .ok (.aload_n 0, 1) := by decide +kernel
theorem dX1_takeJournal_7 : decode cX1_takeJournal 7 = .ok (.getfield 9, 3) := by decide +kernel
theorem dX1_takeJournal_10 : decode cX1_takeJournal 10 = .ok (.iconst 0, 1) := by decide +kernel
theorem dX1_takeJournal_11 : decode cX1_takeJournal 11 = .ok (.invokestatic 37, 3) := by decide +kernel
theorem dX1_takeJournal_14 : decode cX1_takeJournal 14 = .ok (.return_, 1) := by decide +kernel
theorem dX2_init_0 : decode cX2_init 0 = .ok (.aload_n 0, 1) := by decide +kernel
theorem dX2_init_1 : decode cX2_init 1 = .ok (.invokespecial 3, 3) := by decide +kernel
theorem dX2_init_4 : decode cX2_init 4 = .ok (.aload_n 0, 1) := by decide +kernel
theorem dX2_init_5 : decode cX2_init 5 = .ok (.bipush 40, 2) := by decide +kernel
theorem dX2_init_7 : decode cX2_init 7 = .ok (.newarray .int, 2) := by decide +kernel
theorem dX2_init_9 : decode cX2_init 9 = .ok (.putfield 9, 3) := by decide +kernel
theorem dX2_init_12 : decode cX2_init 12 = .ok (.aload_n 0, 1) := by decide +kernel
theorem dX2_init_13 : decode cX2_init 13 = .ok (.sipush 880, 3) := by decide +kernel
theorem dX2_init_16 : decode cX2_init 16 = .ok (.newarray .int, 2) := by decide +kernel
theorem dX2_init_18 : decode cX2_init 18 = .ok (.putfield 15, 3) := by decide +kernel
theorem dX2_init_21 : decode cX2_init 21 = .ok (.return_, 1) := by decide +kernel
theorem dX2_size_0 : decode cX2_size 0 = .ok (.aload_n 0, 1) := by decide +kernel
theorem dX2_size_1 : decode cX2_size 1 = .ok (.getfield 18, 3) := by decide +kernel
theorem dX2_size_4 : decode cX2_size 4 = .ok (.ireturn, 1) := by decide +kernel
theorem dX2_add_0 : decode cX2_add 0 = .ok (.aload_n 0, 1) := by decide +kernel
theorem dX2_add_1 : decode cX2_add 1 = .ok (.getfield 18, 3) := by decide +kernel
theorem dX2_add_4 : decode cX2_add 4 = .ok (.ifCond .lt 51, 3) := by decide +kernel
theorem dX2_add_7 : decode cX2_add 7 = .ok (.aload_n 0, 1) := by decide +kernel
theorem dX2_add_8 : decode cX2_add 8 = .ok (.getfield 18, 3) := by decide +kernel
theorem dX2_add_11 : decode cX2_add 11 = .ok (.aload_n 0, 1) := by decide +kernel
theorem dX2_add_12 : decode cX2_add 12 = .ok (.getfield 9, 3) := by decide +kernel
theorem dX2_add_15 : decode cX2_add 15 = .ok (.arraylength, 1) := by decide +kernel
theorem dX2_add_16 : decode cX2_add 16 = .ok (.if_icmp .ge 39, 3) := by decide +kernel
theorem dX2_add_19 : decode cX2_add 19 = .ok (.aload_n 0, 1) := by decide +kernel
theorem dX2_add_20 : decode cX2_add 20 = .ok (.getfield 9, 3) := by decide +kernel
theorem dX2_add_23 : decode cX2_add 23 = .ok (.aload_n 0, 1) := by decide +kernel
theorem dX2_add_24 : decode cX2_add 24 = .ok (.getfield 18, 3) := by decide +kernel
theorem dX2_add_27 : decode cX2_add 27 = .ok (.iload_n 2, 1) := by decide +kernel
theorem dX2_add_28 : decode cX2_add 28 = .ok (.iastore, 1) := by decide +kernel
