theorem dX3_fillTrial_99 : decode cX3_fillTrial 99 = .ok (.invokevirtual 85, 3) := by decide +kernel
theorem dX3_fillTrial_102 : decode cX3_fillTrial 102 = .ok (.invokevirtual 60, 3) := by decide +kernel
theorem dX3_fillTrial_105 : decode cX3_fillTrial 105 = .ok (.bipush (-2), 2) := by decide +kernel
theorem dX3_fillTrial_107 : decode cX3_fillTrial 107 = .ok (.if_icmp .ne 5, 3) := by decide +kernel
theorem dX3_fillTrial_110 : decode cX3_fillTrial 110 = .ok (.iconst 0, 1) := by decide +kernel
theorem dX3_fillTrial_111 : decode cX3_fillTrial 111 = .ok (.ireturn, 1) := by decide +kernel
theorem dX3_fillTrial_112 : decode cX3_fillTrial 112 = .ok (.aload_n 0, 1) := by decide +kernel
theorem dX3_fillTrial_113 : decode cX3_fillTrial 113 = .ok (.getfield 23, 3) := by decide +kernel
theorem dX3_fillTrial_116 : decode cX3_fillTrial 116 = .ok (.aload_n 0, 1) := by decide +kernel
theorem dX3_fillTrial_117 : decode cX3_fillTrial 117 = .ok (.getfield 36, 3) := by decide +kernel
theorem dX3_fillTrial_120 : decode cX3_fillTrial 120 = .ok (.invokevirtual 220, 3) := by decide +kernel
theorem dX3_fillTrial_123 : decode cX3_fillTrial 123 = .ok (.iinc 6 1, 3) := by decide +kernel
theorem dX3_fillTrial_126 : decode cX3_fillTrial 126 = .ok (.goto (-75), 3) := by decide +kernel
theorem dX3_fillTrial_129 : decode cX3_fillTrial 129 = .ok (.aload_n 0, 1) := by decide +kernel
theorem dX3_fillTrial_130 : decode cX3_fillTrial 130 = .ok (.aload_n 0, 1) := by decide +kernel
theorem dX3_fillTrial_131 : decode cX3_fillTrial 131 = .ok (.getfield 23, 3) := by decide +kernel
theorem dX3_fillTrial_134 : decode cX3_fillTrial 134 = .ok (.iload 4, 2) := by decide +kernel
theorem dX3_fillTrial_136 : decode cX3_fillTrial 136 = .ok (.iload_n 2, 1) := by decide +kernel
theorem dX3_fillTrial_137 : decode cX3_fillTrial 137 = .ok (.iload_n 3, 1) := by decide +kernel
theorem dX3_fillTrial_138 : decode cX3_fillTrial 138 = .ok (.invokevirtual 60, 3) := by decide +kernel
theorem dX3_fillTrial_141 : decode cX3_fillTrial 141 = .ok (.bipush (-2), 2) := by decide +kernel
theorem dX3_fillTrial_143 : decode cX3_fillTrial 143 = .ok (.if_icmp .ne 5, 3) := by decide +kernel
theorem dX3_fillTrial_146 : decode cX3_fillTrial 146 = .ok (.iconst 0, 1) := by decide +kernel
theorem dX3_fillTrial_147 : decode cX3_fillTrial 147 = .ok (.ireturn, 1) := by decide +kernel
theorem dX3_fillTrial_148 : decode cX3_fillTrial 148 = .ok (.aload_n 0, 1) := by decide +kernel
theorem dX3_fillTrial_149 : decode cX3_fillTrial 149 = .ok (.getfield 23, 3) := by decide +kernel
theorem dX3_fillTrial_152 : decode cX3_fillTrial 152 = .ok (.aload_n 0, 1) := by decide +kernel
theorem dX3_fillTrial_153 : decode cX3_fillTrial 153 = .ok (.getfield 36, 3) := by decide +kernel
theorem dX3_fillTrial_156 : decode cX3_fillTrial 156 = .ok (.invokevirtual 220, 3) := by decide +kernel
theorem dX3_fillTrial_159 : decode cX3_fillTrial 159 = .ok (.iconst 1, 1) := by decide +kernel
theorem dX3_fillTrial_160 : decode cX3_fillTrial 160 = .ok (.ireturn, 1) := by decide +kernel
theorem dX3_takeTrial_0 : decode cX3_takeTrial 0 = .ok (.iconst 0, 1) := by decide +kernel
theorem dX3_takeTrial_1 : decode cX3_takeTrial 1 = .ok (.istore_n 1, 1) := by decide +kernel
theorem dX3_takeTrial_2 : decode cX3_takeTrial 2 = .ok (.iload_n 1, 1) := by decide +kernel
theorem dX3_takeTrial_3 : decode cX3_takeTrial 3 = .ok (.bipush 9, 2) := by decide +kernel
theorem dX3_takeTrial_5 : decode cX3_takeTrial 5 = .ok (.if_icmp .ge 35, 3) := by decide +kernel
theorem dX3_takeTrial_8 : decode cX3_takeTrial 8 = .ok (.aload_n 0, 1) := by decide +kernel
theorem dX3_takeTrial_9 : decode cX3_takeTrial 9 = .ok (.getfield 23, 3) := by decide +kernel
theorem dX3_takeTrial_12 : decode cX3_takeTrial 12 = .ok (.iload_n 1, 1) := by decide +kernel
theorem dX3_takeTrial_13 : decode cX3_takeTrial 13 = .ok (.invokevirtual 123, 3) := by decide +kernel
theorem dX3_takeTrial_16 : decode cX3_takeTrial 16 = .ok (.istore_n 2, 1) := by decide +kernel
theorem dX3_takeTrial_17 : decode cX3_takeTrial 17 = .ok (.aload_n 0, 1) := by decide +kernel
theorem dX3_takeTrial_18 : decode cX3_takeTrial 18 = .ok (.getfield 16, 3) := by decide +kernel
theorem dX3_takeTrial_21 : decode cX3_takeTrial 21 = .ok (.aload_n 0, 1) := by decide +kernel
theorem dX3_takeTrial_22 : decode cX3_takeTrial 22 = .ok (.getfield 23, 3) := by decide +kernel
theorem dX3_takeTrial_25 : decode cX3_takeTrial 25 = .ok (.iload_n 2, 1) := by decide +kernel
theorem dX3_takeTrial_26 : decode cX3_takeTrial 26 = .ok (.invokevirtual 223, 3) := by decide +kernel
theorem dX3_takeTrial_29 : decode cX3_takeTrial 29 = .ok (.aload_n 0, 1) := by decide +kernel
theorem dX3_takeTrial_30 : decode cX3_takeTrial 30 = .ok (.iload_n 2, 1) := by decide +kernel
theorem dX3_takeTrial_31 : decode cX3_takeTrial 31 = .ok (.invokevirtual 96, 3) := by decide +kernel
theorem dX3_takeTrial_34 : decode cX3_takeTrial 34 = .ok (.iinc 1 1, 3) := by decide +kernel
theorem dX3_takeTrial_37 : decode cX3_takeTrial 37 = .ok (.goto (-35), 3) := by decide +kernel
theorem dX3_takeTrial_40 : decode cX3_takeTrial 40 = .ok (.aload_n 0, 1) := by decide +kernel
theorem dX3_takeTrial_41 : decode cX3_takeTrial 41 = .ok (.getfield 16, 3) := by decide +kernel
theorem dX3_takeTrial_44 : decode cX3_takeTrial 44 = .ok (.aload_n 0, 1) := by decide +kernel
theorem dX3_takeTrial_45 : decode cX3_takeTrial 45 = .ok (.getfield 23, 3) := by decide +kernel
theorem dX3_takeTrial_48 : decode cX3_takeTrial 48 = .ok (.bipush 18, 2) := by decide +kernel
theorem dX3_takeTrial_50 : decode cX3_takeTrial 50 = .ok (.invokevirtual 223, 3) := by decide +kernel
theorem dX3_takeTrial_53 : decode cX3_takeTrial 53 = .ok (.aload_n 0, 1) := by decide +kernel
theorem dX3_takeTrial_54 : decode cX3_takeTrial 54 = .ok (.bipush 18, 2) := by decide +kernel
theorem dX3_takeTrial_56 : decode cX3_takeTrial 56 = .ok (.invokevirtual 96, 3) := by decide +kernel
theorem dX3_takeTrial_59 : decode cX3_takeTrial 59 = .ok (.aload_n 0, 1) := by decide +kernel
theorem dX3_takeTrial_60 : decode cX3_takeTrial 60 = .ok (.dup, 1) := by decide +kernel
theorem dX3_takeTrial_61 : decode cX3_takeTrial 61 = .ok (.getfield 153, 3) := by decide +kernel
theorem dX3_takeTrial_64 : decode cX3_takeTrial 64 = .ok (.iconst 1, 1) := by decide +kernel
theorem dX3_takeTrial_65 : decode cX3_takeTrial 65 = .ok (.iadd, 1) := by decide +kernel
theorem dX3_takeTrial_66 : decode cX3_takeTrial 66 = .ok (.putfield 153, 3) := by decide +kernel
theorem dX3_takeTrial_69 : decode cX3_takeTrial 69 = .ok (.return_, 1) := by decide +kernel
theorem dX3_write_0 : decode cX3_write 0 = .ok (.aload_n 0, 1) := by decide +kernel
theorem dX3_write_1 : decode cX3_write 1 = .ok (.getfield 29, 3) := by decide +kernel
theorem dX3_write_4 : decode cX3_write 4 = .ok (.invokevirtual 99, 3) := by decide +kernel
theorem dX3_write_7 : decode cX3_write 7 = .ok (.bipush 40, 2) := by decide +kernel
theorem dX3_write_9 : decode cX3_write 9 = .ok (.if_icmp .lt 16, 3) := by decide +kernel
theorem dX3_write_12 : decode cX3_write 12 = .ok (.aload_n 0, 1) := by decide +kernel
theorem dX3_write_13 : decode cX3_write 13 = .ok (.getfield 29, 3) := by decide +kernel
theorem dX3_write_16 : decode cX3_write 16 = .ok (.bipush 40, 2) := by decide +kernel
theorem dX3_write_18 : decode cX3_write 18 = .ok (.aload_n 0, 1) := by decide +kernel
theorem dX3_write_19 : decode cX3_write 19 = .ok (.getfield 20, 3) := by decide +kernel
theorem dX3_write_22 : decode cX3_write 22 = .ok (.invokevirtual 102, 3) := by decide +kernel
theorem dX3_write_25 : decode cX3_write 25 = .ok (.aload_n 0, 1) := by decide +kernel
theorem dX3_write_26 : decode cX3_write 26 = .ok (.getfield 29, 3) := by decide +kernel
theorem dX3_write_29 : decode cX3_write 29 = .ok (.aload_n 0, 1) := by decide +kernel
theorem dX3_write_30 : decode cX3_write 30 = .ok (.getfield 16, 3) := by decide +kernel
theorem dX3_write_33 : decode cX3_write 33 = .ok (.iload_n 1, 1) := by decide +kernel
theorem dX3_write_34 : decode cX3_write 34 = .ok (.invokevirtual 227, 3) := by decide +kernel
theorem dX3_write_37 : decode cX3_write 37 = .ok (.aload_n 0, 1) := by decide +kernel
theorem dX3_write_38 : decode cX3_write 38 = .ok (.dup, 1) := by decide +kernel
theorem dX3_write_39 : decode cX3_write 39 = .ok (.getfield 47, 3) := by decide +kernel
theorem dX3_write_42 : decode cX3_write 42 = .ok (.iconst 1, 1) := by decide +kernel
theorem dX3_write_43 : decode cX3_write 43 = .ok (.iadd, 1) := by decide +kernel
theorem dX3_write_44 : decode cX3_write 44 = .ok (.putfield 47, 3) := by decide +kernel
theorem dX3_write_47 : decode cX3_write 47 = .ok (.return_, 1) := by decide +kernel
theorem dX3_recover_0 : decode cX3_recover 0 = .ok (.aload_n 0, 1) := by decide +kernel
theorem dX3_recover_1 : decode cX3_recover 1 = .ok (.getfield 36, 3) := by decide +kernel
theorem dX3_recover_4 : decode cX3_recover 4 = .ok (.aload_n 0, 1) := by decide +kernel
theorem dX3_recover_5 : decode cX3_recover 5 = .ok (.getfield 20, 3) := by decide +kernel
theorem dX3_recover_8 : decode cX3_recover 8 = .ok (.invokevirtual 229, 3) := by decide +kernel
theorem dX3_recover_11 : decode cX3_recover 11 = .ok (.aload_n 0, 1) := by decide +kernel
theorem dX3_recover_12 : decode cX3_recover 12 = .ok (.getfield 20, 3) := by decide +kernel
theorem dX3_recover_15 : decode cX3_recover 15 = .ok (.aload_n 0, 1) := by decide +kernel
theorem dX3_recover_16 : decode cX3_recover 16 = .ok (.getfield 36, 3) := by decide +kernel
theorem dX3_recover_19 : decode cX3_recover 19 = .ok (.invokevirtual 220, 3) := by decide +kernel
theorem dX3_recover_22 : decode cX3_recover 22 = .ok (.aload_n 0, 1) := by decide +kernel
theorem dX3_recover_23 : decode cX3_recover 23 = .ok (.getfield 20, 3) := by decide +kernel
theorem dX3_recover_26 : decode cX3_recover 26 = .ok (.invokevirtual 201, 3) := by decide +kernel
theorem dX3_recover_29 : decode cX3_recover 29 = .ok (.aload_n 0, 1) := by decide +kernel
theorem dX3_recover_30 : decode cX3_recover 30 = .ok (.aload_n 0, 1) := by decide +kernel
theorem dX3_recover_31 : decode cX3_recover 31 = .ok (.getfield 36, 3) := by decide +kernel
theorem dX3_recover_34 : decode cX3_recover 34 = .ok (.invokevirtual 204, 3) := by decide +kernel
theorem dX3_recover_37 : decode cX3_recover 37 = .ok (.putfield 159, 3) := by decide +kernel
theorem dX3_recover_40 : decode cX3_recover 40 = .ok (.iconst 0, 1) := by decide +kernel
theorem dX3_recover_41 : decode cX3_recover 41 = .ok (.istore_n 1, 1) := by decide +kernel
theorem dX3_recover_42 : decode cX3_recover 42 = .ok (.iload_n 1, 1) := by decide +kernel
theorem dX3_recover_43 : decode cX3_recover 43 = .ok (.bipush 20, 2) := by decide +kernel
theorem dX3_recover_45 : decode cX3_recover 45 = .ok (.if_icmp .ge 21, 3) := by decide +kernel
theorem dX3_recover_48 : decode cX3_recover 48 = .ok (.aload_n 0, 1) := by decide +kernel
theorem dX3_recover_49 : decode cX3_recover 49 = .ok (.getfield 16, 3) := by decide +kernel
theorem dX3_recover_52 : decode cX3_recover 52 = .ok (.aload_n 0, 1) := by decide +kernel
theorem dX3_recover_53 : decode cX3_recover 53 = .ok (.getfield 20, 3) := by decide +kernel
theorem dX3_recover_56 : decode cX3_recover 56 = .ok (.iload_n 1, 1) := by decide +kernel
theorem dX3_recover_57 : decode cX3_recover 57 = .ok (.invokevirtual 223, 3) := by decide +kernel
theorem dX3_recover_60 : decode cX3_recover 60 = .ok (.iinc 1 1, 3) := by decide +kernel
theorem dX3_recover_63 : decode cX3_recover 63 = .ok (.goto (-21), 3) := by decide +kernel
theorem dX3_recover_66 : decode cX3_recover 66 = .ok (.return_, 1) := by decide +kernel
theorem dX3_placeOf_0 : decode cX3_placeOf 0 = .ok (.iload_n 0, 1) := by decide +kernel
theorem dX3_placeOf_1 : decode cX3_placeOf 1 = .ok (.iconst 4, 1) := by decide +kernel
theorem dX3_placeOf_2 : decode cX3_placeOf 2 = .ok (.imul, 1) := by decide +kernel
theorem dX3_placeOf_3 : decode cX3_placeOf 3 = .ok (.iload_n 1, 1) := by decide +kernel
theorem dX3_placeOf_4 : decode cX3_placeOf 4 = .ok (.iadd, 1) := by decide +kernel
theorem dX3_placeOf_5 : decode cX3_placeOf 5 = .ok (.ireturn, 1) := by decide +kernel
theorem dX3_rowOf_0 : decode cX3_rowOf 0 = .ok (.iload_n 0, 1) := by decide +kernel
theorem dX3_rowOf_1 : decode cX3_rowOf 1 = .ok (.iconst 4, 1) := by decide +kernel
theorem dX3_rowOf_2 : decode cX3_rowOf 2 = .ok (.idiv, 1) := by decide +kernel
theorem dX3_rowOf_3 : decode cX3_rowOf 3 = .ok (.ireturn, 1) := by decide +kernel
theorem dX3_columnOf_0 : decode cX3_columnOf 0 = .ok (.iload_n 0, 1) := by decide +kernel
theorem dX3_columnOf_1 : decode cX3_columnOf 1 = .ok (.iconst 4, 1) := by decide +kernel
theorem dX3_columnOf_2 : decode cX3_columnOf 2 = .ok (.irem, 1) := by decide +kernel
theorem dX3_columnOf_3 : decode cX3_columnOf 3 = .ok (.iconst 3, 1) := by decide +kernel
theorem dX3_columnOf_4 : decode cX3_columnOf 4 = .ok (.imul, 1) := by decide +kernel
theorem dX3_columnOf_5 : decode cX3_columnOf 5 = .ok (.ireturn, 1) := by decide +kernel
theorem dX3_cellAt_0 : decode cX3_cellAt 0 = .ok (.iload_n 1, 1) := by decide +kernel
theorem dX3_cellAt_1 : decode cX3_cellAt 1 = .ok (.bipush 22, 2) := by decide +kernel
theorem dX3_cellAt_3 : decode cX3_cellAt 3 = .ok (.imul, 1) := by decide +kernel
theorem dX3_cellAt_4 : decode cX3_cellAt 4 = .ok (.iload_n 2, 1) := by decide +kernel
theorem dX3_cellAt_5 : decode cX3_cellAt 5 = .ok (.iadd, 1) := by decide +kernel
theorem dX3_cellAt_6 : decode cX3_cellAt 6 = .ok (.istore_n 3, 1) := by decide +kernel
theorem dX3_cellAt_7 : decode cX3_cellAt 7 = .ok (.iload_n 3, 1) := by decide +kernel
theorem dX3_cellAt_8 : decode cX3_cellAt 8 = .ok (.ifCond .lt 15, 3) := by decide +kernel
theorem dX3_cellAt_11 : decode cX3_cellAt 11 = .ok (.iload_n 3, 1) := by decide +kernel
theorem dX3_cellAt_12 : decode cX3_cellAt 12 = .ok (.aload_n 0, 1) := by decide +kernel
theorem dX3_cellAt_13 : decode cX3_cellAt 13 = .ok (.arraylength, 1) := by decide +kernel
theorem dX3_cellAt_14 : decode cX3_cellAt 14 = .ok (.if_icmp .ge 9, 3) := by decide +kernel
theorem dX3_cellAt_17 : decode cX3_cellAt 17 = .ok (.aload_n 0, 1) := by decide +kernel
theorem dX3_cellAt_18 : decode cX3_cellAt 18 = .ok (.iload_n 3, 1) := by decide +kernel
theorem dX3_cellAt_19 : decode cX3_cellAt 19 = .ok (.iaload, 1) := by decide +kernel
theorem dX3_cellAt_20 : decode cX3_cellAt 20 = .ok (.goto 4, 3) := by decide +kernel
theorem dX3_cellAt_23 : decode cX3_cellAt 23 = .ok (.iconst 0, 1) := by decide +kernel
theorem dX3_cellAt_24 : decode cX3_cellAt 24 = .ok (.ireturn, 1) := by decide +kernel
theorem dX3_tellCell_0 : decode cX3_tellCell 0 = .ok (.iload_n 1, 1) := by decide +kernel
theorem dX3_tellCell_1 : decode cX3_tellCell 1 = .ok (.bipush 22, 2) := by decide +kernel
theorem dX3_tellCell_3 : decode cX3_tellCell 3 = .ok (.imul, 1) := by decide +kernel
theorem dX3_tellCell_4 : decode cX3_tellCell 4 = .ok (.iload_n 2, 1) := by decide +kernel
theorem dX3_tellCell_5 : decode cX3_tellCell 5 = .ok (.iadd, 1) := by decide +kernel
theorem dX3_tellCell_6 : decode cX3_tellCell 6 = .ok (.istore 4, 2) := by decide +kernel
theorem dX3_tellCell_8 : decode cX3_tellCell 8 = .ok (.iload 4, 2) := by decide +kernel
theorem dX3_tellCell_10 : decode cX3_tellCell 10 = .ok (.ifCond .lt 15, 3) := by decide +kernel
theorem dX3_tellCell_13 : decode cX3_tellCell 13 = .ok (.iload 4, 2) := by decide +kernel
theorem dX3_tellCell_15 : decode cX3_tellCell 15 = .ok (.aload_n 0, 1) := by decide +kernel
theorem dX3_tellCell_16 : decode cX3_tellCell 16 = .ok (.arraylength, 1) := by decide +kernel
theorem dX3_tellCell_17 : decode cX3_tellCell 17 = .ok (.if_icmp .ge 8, 3) := by decide +kernel
theorem dX3_tellCell_20 : decode cX3_tellCell 20 = .ok (.aload_n 0, 1) := by decide +kernel
theorem dX3_tellCell_21 : decode cX3_tellCell 21 = .ok (.iload 4, 2) := by decide +kernel
theorem dX3_tellCell_23 : decode cX3_tellCell 23 = .ok (.iload_n 3, 1) := by decide +kernel
theorem dX3_tellCell_24 : decode cX3_tellCell 24 = .ok (.iastore, 1) := by decide +kernel
theorem dX3_tellCell_25 : decode cX3_tellCell 25 = .ok (.return_, 1) := by decide +kernel
theorem dX3_copyRow_0 : decode cX3_copyRow 0 = .ok (.iload_n 1, 1) := by decide +kernel
theorem dX3_copyRow_1 : decode cX3_copyRow 1 = .ok (.bipush 22, 2) := by decide +kernel
theorem dX3_copyRow_3 : decode cX3_copyRow 3 = .ok (.imul, 1) := by decide +kernel
theorem dX3_copyRow_4 : decode cX3_copyRow 4 = .ok (.istore 4, 2) := by decide +kernel
theorem dX3_copyRow_6 : decode cX3_copyRow 6 = .ok (.iload_n 3, 1) := by decide +kernel
theorem dX3_copyRow_7 : decode cX3_copyRow 7 = .ok (.bipush 22, 2) := by decide +kernel
theorem dX3_copyRow_9 : decode cX3_copyRow 9 = .ok (.imul, 1) := by decide +kernel
theorem dX3_copyRow_10 : decode cX3_copyRow 10 = .ok (.istore 5, 2) := by decide +kernel
theorem dX3_copyRow_12 : decode cX3_copyRow 12 = .ok (.iload 4, 2) := by decide +kernel
theorem dX3_copyRow_14 : decode cX3_copyRow 14 = .ok (.ifCond .lt 39, 3) := by decide +kernel
theorem dX3_copyRow_17 : decode cX3_copyRow 17 = .ok (.iload 4, 2) := by decide +kernel
theorem dX3_copyRow_19 : decode cX3_copyRow 19 = .ok (.aload_n 0, 1) := by decide +kernel
theorem dX3_copyRow_20 : decode cX3_copyRow 20 = .ok (.arraylength, 1) := by decide +kernel
theorem dX3_copyRow_21 : decode cX3_copyRow 21 = .ok (.bipush 22, 2) := by decide +kernel
theorem dX3_copyRow_23 : decode cX3_copyRow 23 = .ok (.isub, 1) := by decide +kernel
theorem dX3_copyRow_24 : decode cX3_copyRow 24 = .ok (.if_icmp .gt 29, 3) := by decide +kernel
theorem dX3_copyRow_27 : decode cX3_copyRow 27 = .ok (.iload 5, 2) := by decide +kernel
theorem dX3_copyRow_29 : decode cX3_copyRow 29 = .ok (.ifCond .lt 24, 3) := by decide +kernel
theorem dX3_copyRow_32 : decode cX3_copyRow 32 = .ok (.iload 5, 2) := by decide +kernel
theorem dX3_copyRow_34 : decode cX3_copyRow 34 = .ok (.aload_n 2, 1) := by decide +kernel
theorem dX3_copyRow_35 : decode cX3_copyRow 35 = .ok (.arraylength, 1) := by decide +kernel
theorem dX3_copyRow_36 : decode cX3_copyRow 36 = .ok (.bipush 22, 2) := by decide +kernel
theorem dX3_copyRow_38 : decode cX3_copyRow 38 = .ok (.isub, 1) := by decide +kernel
theorem dX3_copyRow_39 : decode cX3_copyRow 39 = .ok (.if_icmp .gt 14, 3) := by decide +kernel
theorem dX3_copyRow_42 : decode cX3_copyRow 42 = .ok (.aload_n 0, 1) := by decide +kernel
theorem dX3_copyRow_43 : decode cX3_copyRow 43 = .ok (.iload 4, 2) := by decide +kernel
theorem dX3_copyRow_45 : decode cX3_copyRow 45 = .ok (.aload_n 2, 1) := by decide +kernel
theorem dX3_copyRow_46 : decode cX3_copyRow 46 = .ok (.iload 5, 2) := by decide +kernel
theorem dX3_copyRow_48 : decode cX3_copyRow 48 = .ok (.bipush 22, 2) := by decide +kernel
theorem dX3_copyRow_50 : decode cX3_copyRow 50 = .ok (.invokestatic 233, 3) := by decide +kernel
theorem dX3_copyRow_53 : decode cX3_copyRow 53 = .ok (.return_, 1) := by decide +kernel
theorem dX4_init_0 : decode cX4_init 0 = .ok (.aload_n 0, 1) := by decide +kernel
theorem dX4_init_1 : decode cX4_init 1 = .ok (.invokespecial 1, 3) := by decide +kernel
theorem dX4_init_4 : decode cX4_init 4 = .ok (.aload_n 0, 1) := by decide +kernel
theorem dX4_init_5 : decode cX4_init 5 = .ok (.bipush 108, 2) := by decide +kernel
theorem dX4_init_7 : decode cX4_init 7 = .ok (.newarray .boolean, 2) := by decide +kernel
theorem dX4_init_9 : decode cX4_init 9 = .ok (.putfield 7, 3) := by decide +kernel
theorem dX4_init_12 : decode cX4_init 12 = .ok (.aload_n 0, 1) := by decide +kernel
theorem dX4_init_13 : decode cX4_init 13 = .ok (.bipush 108, 2) := by decide +kernel
theorem dX4_init_15 : decode cX4_init 15 = .ok (.newarray .int, 2) := by decide +kernel
theorem dX4_init_17 : decode cX4_init 17 = .ok (.putfield 13, 3) := by decide +kernel
theorem dX4_init_20 : decode cX4_init 20 = .ok (.aload_n 0, 1) := by decide +kernel
theorem dX4_init_21 : decode cX4_init 21 = .ok (.bipush 108, 2) := by decide +kernel
theorem dX4_init_23 : decode cX4_init 23 = .ok (.newarray .int, 2) := by decide +kernel
theorem dX4_init_25 : decode cX4_init 25 = .ok (.putfield 17, 3) := by decide +kernel
theorem dX4_init_28 : decode cX4_init 28 = .ok (.aload_n 0, 1) := by decide +kernel
theorem dX4_init_29 : decode cX4_init 29 = .ok (.iconst 4, 1) := by decide +kernel
theorem dX4_init_30 : decode cX4_init 30 = .ok (.newarray .int, 2) := by decide +kernel
theorem dX4_init_32 : decode cX4_init 32 = .ok (.putfield 20, 3) := by decide +kernel
theorem dX4_init_35 : decode cX4_init 35 = .ok (.aload_n 0, 1) := by decide +kernel
theorem dX4_init_36 : decode cX4_init 36 = .ok (.bipush 8, 2) := by decide +kernel
theorem dX4_init_38 : decode cX4_init 38 = .ok (.newarray .int, 2) := by decide +kernel
theorem dX4_init_40 : decode cX4_init 40 = .ok (.putfield 23, 3) := by decide +kernel
theorem dX4_init_43 : decode cX4_init 43 = .ok (.aload_n 0, 1) := by decide +kernel
theorem dX4_init_44 : decode cX4_init 44 = .ok (.bipush 8, 2) := by decide +kernel
theorem dX4_init_46 : decode cX4_init 46 = .ok (.newarray .int, 2) := by decide +kernel
theorem dX4_init_48 : decode cX4_init 48 = .ok (.putfield 26, 3) := by decide +kernel
theorem dX4_init_51 : decode cX4_init 51 = .ok (.aload_n 0, 1) := by decide +kernel
theorem dX4_init_52 : decode cX4_init 52 = .ok (.bipush 8, 2) := by decide +kernel
theorem dX4_init_54 : decode cX4_init 54 = .ok (.newarray .int, 2) := by decide +kernel
theorem dX4_init_56 : decode cX4_init 56 = .ok (.putfield 29, 3) := by decide +kernel
theorem dX4_init_59 : decode cX4_init 59 = .ok (.aload_n 0, 1) := by decide +kernel
theorem dX4_init_60 : decode cX4_init 60 = .ok (.bipush 72, 2) := by decide +kernel
theorem dX4_init_62 : decode cX4_init 62 = .ok (.newarray .boolean, 2) := by decide +kernel
theorem dX4_init_64 : decode cX4_init 64 = .ok (.putfield 32, 3) := by decide +kernel
theorem dX4_init_67 : decode cX4_init 67 = .ok (.aload_n 0, 1) := by decide +kernel
theorem dX4_init_68 : decode cX4_init 68 = .ok (.bipush 72, 2) := by decide +kernel
theorem dX4_init_70 : decode cX4_init 70 = .ok (.newarray .int, 2) := by decide +kernel
theorem dX4_init_72 : decode cX4_init 72 = .ok (.putfield 35, 3) := by decide +kernel
theorem dX4_init_75 : decode cX4_init 75 = .ok (.aload_n 0, 1) := by decide +kernel
theorem dX4_init_76 : decode cX4_init 76 = .ok (.bipush 72, 2) := by decide +kernel
theorem dX4_init_78 : decode cX4_init 78 = .ok (.newarray .int, 2) := by decide +kernel
theorem dX4_init_80 : decode cX4_init 80 = .ok (.putfield 38, 3) := by decide +kernel
theorem dX4_init_83 : decode cX4_init 83 = .ok (.aload_n 0, 1) := by decide +kernel
theorem dX4_init_84 : decode cX4_init 84 = .ok (.bipush 8, 2) := by decide +kernel
theorem dX4_init_86 : decode cX4_init 86 = .ok (.newarray .int, 2) := by decide +kernel
theorem dX4_init_88 : decode cX4_init 88 = .ok (.putfield 41, 3) := by decide +kernel
theorem dX4_init_91 : decode cX4_init 91 = .ok (.aload_n 0, 1) := by decide +kernel
theorem dX4_init_92 : decode cX4_init 92 = .ok (.bipush 8, 2) := by decide +kernel
theorem dX4_init_94 : decode cX4_init 94 = .ok (.newarray .int, 2) := by decide +kernel
theorem dX4_init_96 : decode cX4_init 96 = .ok (.putfield 44, 3) := by decide +kernel
theorem dX4_init_99 : decode cX4_init 99 = .ok (.aload_n 0, 1) := by decide +kernel
theorem dX4_init_100 : decode cX4_init 100 = .ok (.bipush 8, 2) := by decide +kernel
theorem dX4_init_102 : decode cX4_init 102 = .ok (.newarray .int, 2) := by decide +kernel
theorem dX4_init_104 : decode cX4_init 104 = .ok (.putfield 47, 3) := by decide +kernel
theorem dX4_init_107 : decode cX4_init 107 = .ok (.aload_n 0, 1) := by decide +kernel
theorem dX4_init_108 : decode cX4_init 108 = .ok (.bipush 40, 2) := by decide +kernel
theorem dX4_init_110 : decode cX4_init 110 = .ok (.newarray .int, 2) := by decide +kernel
theorem dX4_init_112 : decode cX4_init 112 = .ok (.putfield 50, 3) := by decide +kernel
theorem dX4_init_115 : decode cX4_init 115 = .ok (.aload_n 0, 1) := by decide +kernel
theorem dX4_init_116 : decode cX4_init 116 = .ok (.bipush 40, 2) := by decide +kernel
theorem dX4_init_118 : decode cX4_init 118 = .ok (.newarray .int, 2) := by decide +kernel
theorem dX4_init_120 : decode cX4_init 120 = .ok (.putfield 53, 3) := by decide +kernel
theorem dX4_init_123 : decode cX4_init 123 = .ok (.aload_n 0, 1) := by decide +kernel
theorem dX4_init_124 : decode cX4_init 124 = .ok (.bipush 40, 2) := by decide +kernel
theorem dX4_init_126 : decode cX4_init 126 = .ok (.newarray .int, 2) := by decide +kernel
theorem dX4_init_128 : decode cX4_init 128 = .ok (.putfield 56, 3) := by decide +kernel
theorem dX4_init_131 : decode cX4_init 131 = .ok (.aload_n 0, 1) := by decide +kernel
theorem dX4_init_132 : decode cX4_init 132 = .ok (.sipush 320, 3) := by decide +kernel
theorem dX4_init_135 : decode cX4_init 135 = .ok (.newarray .boolean, 2) := by decide +kernel
theorem dX4_init_137 : decode cX4_init 137 = .ok (.putfield 59, 3) := by decide +kernel
theorem dX4_init_140 : decode cX4_init 140 = .ok (.aload_n 0, 1) := by decide +kernel
theorem dX4_init_141 : decode cX4_init 141 = .ok (.sipush 320, 3) := by decide +kernel
theorem dX4_init_144 : decode cX4_init 144 = .ok (.newarray .int, 2) := by decide +kernel
theorem dX4_init_146 : decode cX4_init 146 = .ok (.putfield 62, 3) := by decide +kernel
theorem dX4_init_149 : decode cX4_init 149 = .ok (.aload_n 0, 1) := by decide +kernel
theorem dX4_init_150 : decode cX4_init 150 = .ok (.sipush 320, 3) := by decide +kernel
theorem dX4_init_153 : decode cX4_init 153 = .ok (.newarray .int, 2) := by decide +kernel
theorem dX4_init_155 : decode cX4_init 155 = .ok (.putfield 65, 3) := by decide +kernel
theorem dX4_init_158 : decode cX4_init 158 = .ok (.aload_n 0, 1) := by decide +kernel
theorem dX4_init_159 : decode cX4_init 159 = .ok (.sipush 320, 3) := by decide +kernel
theorem dX4_init_162 : decode cX4_init 162 = .ok (.newarray .int, 2) := by decide +kernel
theorem dX4_init_164 : decode cX4_init 164 = .ok (.putfield 68, 3) := by decide +kernel
theorem dX4_init_167 : decode cX4_init 167 = .ok (.aload_n 0, 1) := by decide +kernel
theorem dX4_init_168 : decode cX4_init 168 = .ok (.bipush 8, 2) := by decide +kernel
theorem dX4_init_170 : decode cX4_init 170 = .ok (.newarray .int, 2) := by decide +kernel
theorem dX4_init_172 : decode cX4_init 172 = .ok (.putfield 71, 3) := by decide +kernel
theorem dX4_init_175 : decode cX4_init 175 = .ok (.iconst 0, 1) := by decide +kernel
theorem dX4_init_176 : decode cX4_init 176 = .ok (.istore_n 1, 1) := by decide +kernel
theorem dX4_init_177 : decode cX4_init 177 = .ok (.iload_n 1, 1) := by decide +kernel
theorem dX4_init_178 : decode cX4_init 178 = .ok (.iconst 4, 1) := by decide +kernel
theorem dX4_init_179 : decode cX4_init 179 = .ok (.if_icmp .ge 18, 3) := by decide +kernel
theorem dX4_init_182 : decode cX4_init 182 = .ok (.aload_n 0, 1) := by decide +kernel
theorem dX4_init_183 : decode cX4_init 183 = .ok (.getfield 20, 3) := by decide +kernel
theorem dX4_init_186 : decode cX4_init 186 = .ok (.iload_n 1, 1) := by decide +kernel
theorem dX4_init_187 : decode cX4_init 187 = .ok (.iload_n 1, 1) := by decide +kernel
theorem dX4_init_188 : decode cX4_init 188 = .ok (.iconst 1, 1) := by decide +kernel
theorem dX4_init_189 : decode cX4_init 189 = .ok (.iadd, 1) := by decide +kernel
theorem dX4_init_190 : decode cX4_init 190 = .ok (.iastore, 1) := by decide +kernel
theorem dX4_init_191 : decode cX4_init 191 = .ok (.iinc 1 1, 3) := by decide +kernel
theorem dX4_init_194 : decode cX4_init 194 = .ok (.goto (-17), 3) := by decide +kernel
theorem dX4_init_197 : decode cX4_init 197 = .ok (.return_, 1) := by decide +kernel
theorem dX4_thrown_0 : decode cX4_thrown 0 = .ok (.aload_n 0, 1) := by decide +kernel
theorem dX4_thrown_1 : decode cX4_thrown 1 = .ok (.getfield 74, 3) := by decide +kernel
theorem dX4_thrown_4 : decode cX4_thrown 4 = .ok (.ireturn, 1) := by decide +kernel
theorem dX4_refused_0 : decode cX4_refused 0 = .ok (.aload_n 0, 1) := by decide +kernel
theorem dX4_refused_1 : decode cX4_refused 1 = .ok (.iload_n 1, 1) := by decide +kernel
theorem dX4_refused_2 : decode cX4_refused 2 = .ok (.putfield 74, 3) := by decide +kernel
theorem dX4_refused_5 : decode cX4_refused 5 = .ok (.iload_n 1, 1) := by decide +kernel
theorem dX4_refused_6 : decode cX4_refused 6 = .ok (.ifCond .le 7, 3) := by decide +kernel
theorem dX4_refused_9 : decode cX4_refused 9 = .ok (.iconst 1, 1) := by decide +kernel
theorem dX4_refused_10 : decode cX4_refused 10 = .ok (.goto 4, 3) := by decide +kernel
theorem dX4_refused_13 : decode cX4_refused 13 = .ok (.iconst 0, 1) := by decide +kernel
theorem dX4_refused_14 : decode cX4_refused 14 = .ok (.ireturn, 1) := by decide +kernel
theorem dX4_homeOf_0 : decode cX4_homeOf 0 = .ok (.ldc 78, 2) := by decide +kernel
theorem dX4_homeOf_2 : decode cX4_homeOf 2 = .ok (.iload_n 0, 1) := by decide +kernel
theorem dX4_homeOf_3 : decode cX4_homeOf 3 = .ok (.imul, 1) := by decide +kernel
theorem dX4_homeOf_4 : decode cX4_homeOf 4 = .ok (.iload_n 1, 1) := by decide +kernel
theorem dX4_homeOf_5 : decode cX4_homeOf 5 = .ok (.iadd, 1) := by decide +kernel
theorem dX4_homeOf_6 : decode cX4_homeOf 6 = .ok (.istore_n 3, 1) := by decide +kernel
theorem dX4_homeOf_7 : decode cX4_homeOf 7 = .ok (.iload_n 3, 1) := by decide +kernel
theorem dX4_homeOf_8 : decode cX4_homeOf 8 = .ok (.iload_n 3, 1) := by decide +kernel
theorem dX4_homeOf_9 : decode cX4_homeOf 9 = .ok (.bipush 15, 2) := by decide +kernel
theorem dX4_homeOf_11 : decode cX4_homeOf 11 = .ok (.iushr, 1) := by decide +kernel
theorem dX4_homeOf_12 : decode cX4_homeOf 12 = .ok (.ixor, 1) := by decide +kernel
theorem dX4_homeOf_13 : decode cX4_homeOf 13 = .ok (.istore_n 3, 1) := by decide +kernel
theorem dX4_homeOf_14 : decode cX4_homeOf 14 = .ok (.iload_n 2, 1) := by decide +kernel
theorem dX4_homeOf_15 : decode cX4_homeOf 15 = .ok (.ifCond .eq 10, 3) := by decide +kernel
theorem dX4_homeOf_18 : decode cX4_homeOf 18 = .ok (.iload_n 3, 1) := by decide +kernel
theorem dX4_homeOf_19 : decode cX4_homeOf 19 = .ok (.ldc 79, 2) := by decide +kernel
theorem dX4_homeOf_21 : decode cX4_homeOf 21 = .ok (.imul, 1) := by decide +kernel
theorem dX4_homeOf_22 : decode cX4_homeOf 22 = .ok (.goto 7, 3) := by decide +kernel
theorem dX4_homeOf_25 : decode cX4_homeOf 25 = .ok (.iload_n 3, 1) := by decide +kernel
theorem dX4_homeOf_26 : decode cX4_homeOf 26 = .ok (.ldc 80, 2) := by decide +kernel
theorem dX4_homeOf_28 : decode cX4_homeOf 28 = .ok (.imul, 1) := by decide +kernel
theorem dX4_homeOf_29 : decode cX4_homeOf 29 = .ok (.istore_n 3, 1) := by decide +kernel
theorem dX4_homeOf_30 : decode cX4_homeOf 30 = .ok (.iload_n 3, 1) := by decide +kernel
theorem dX4_homeOf_31 : decode cX4_homeOf 31 = .ok (.iload_n 3, 1) := by decide +kernel
theorem dX4_homeOf_32 : decode cX4_homeOf 32 = .ok (.bipush 13, 2) := by decide +kernel
theorem dX4_homeOf_34 : decode cX4_homeOf 34 = .ok (.iushr, 1) := by decide +kernel
theorem dX4_homeOf_35 : decode cX4_homeOf 35 = .ok (.ixor, 1) := by decide +kernel
theorem dX4_homeOf_36 : decode cX4_homeOf 36 = .ok (.bipush 7, 2) := by decide +kernel
theorem dX4_homeOf_38 : decode cX4_homeOf 38 = .ok (.iand, 1) := by decide +kernel
theorem dX4_homeOf_39 : decode cX4_homeOf 39 = .ok (.ireturn, 1) := by decide +kernel
theorem dX4_homeBy_0 : decode cX4_homeBy 0 = .ok (.iload_n 0, 1) := by decide +kernel
theorem dX4_homeBy_1 : decode cX4_homeBy 1 = .ok (.iload_n 1, 1) := by decide +kernel
theorem dX4_homeBy_2 : decode cX4_homeBy 2 = .ok (.iconst 0, 1) := by decide +kernel
theorem dX4_homeBy_3 : decode cX4_homeBy 3 = .ok (.invokestatic 81, 3) := by decide +kernel
theorem dX4_homeBy_6 : decode cX4_homeBy 6 = .ok (.istore_n 3, 1) := by decide +kernel
theorem dX4_homeBy_7 : decode cX4_homeBy 7 = .ok (.iload_n 2, 1) := by decide +kernel
theorem dX4_homeBy_8 : decode cX4_homeBy 8 = .ok (.ifCond .ne 5, 3) := by decide +kernel
theorem dX4_homeBy_11 : decode cX4_homeBy 11 = .ok (.iload_n 3, 1) := by decide +kernel
theorem dX4_homeBy_12 : decode cX4_homeBy 12 = .ok (.ireturn, 1) := by decide +kernel
theorem dX4_homeBy_13 : decode cX4_homeBy 13 = .ok (.iload_n 0, 1) := by decide +kernel
theorem dX4_homeBy_14 : decode cX4_homeBy 14 = .ok (.iload_n 1, 1) := by decide +kernel
theorem dX4_homeBy_15 : decode cX4_homeBy 15 = .ok (.iconst 1, 1) := by decide +kernel
theorem dX4_homeBy_16 : decode cX4_homeBy 16 = .ok (.invokestatic 81, 3) := by decide +kernel
theorem dX4_homeBy_19 : decode cX4_homeBy 19 = .ok (.istore 4, 2) := by decide +kernel
theorem dX4_homeBy_21 : decode cX4_homeBy 21 = .ok (.iload 4, 2) := by decide +kernel
theorem dX4_homeBy_23 : decode cX4_homeBy 23 = .ok (.iload_n 3, 1) := by decide +kernel
theorem dX4_homeBy_24 : decode cX4_homeBy 24 = .ok (.if_icmp .ne 13, 3) := by decide +kernel
theorem dX4_homeBy_27 : decode cX4_homeBy 27 = .ok (.iload 4, 2) := by decide +kernel
theorem dX4_homeBy_29 : decode cX4_homeBy 29 = .ok (.iconst 1, 1) := by decide +kernel
theorem dX4_homeBy_30 : decode cX4_homeBy 30 = .ok (.iadd, 1) := by decide +kernel
theorem dX4_homeBy_31 : decode cX4_homeBy 31 = .ok (.bipush 8, 2) := by decide +kernel
theorem dX4_homeBy_33 : decode cX4_homeBy 33 = .ok (.irem, 1) := by decide +kernel
theorem dX4_homeBy_34 : decode cX4_homeBy 34 = .ok (.goto 5, 3) := by decide +kernel
theorem dX4_homeBy_37 : decode cX4_homeBy 37 = .ok (.iload 4, 2) := by decide +kernel
theorem dX4_homeBy_39 : decode cX4_homeBy 39 = .ok (.ireturn, 1) := by decide +kernel
theorem dX4_slotOf_0 : decode cX4_slotOf 0 = .ok (.iconst 4, 1) := by decide +kernel
theorem dX4_slotOf_1 : decode cX4_slotOf 1 = .ok (.bipush 9, 2) := by decide +kernel
theorem dX4_slotOf_3 : decode cX4_slotOf 3 = .ok (.iload_n 0, 1) := by decide +kernel
theorem dX4_slotOf_4 : decode cX4_slotOf 4 = .ok (.imul, 1) := by decide +kernel
theorem dX4_slotOf_5 : decode cX4_slotOf 5 = .ok (.iload_n 1, 1) := by decide +kernel
theorem dX4_slotOf_6 : decode cX4_slotOf 6 = .ok (.iadd, 1) := by decide +kernel
theorem dX4_slotOf_7 : decode cX4_slotOf 7 = .ok (.imul, 1) := by decide +kernel
theorem dX4_slotOf_8 : decode cX4_slotOf 8 = .ok (.iload_n 2, 1) := by decide +kernel
theorem dX4_slotOf_9 : decode cX4_slotOf 9 = .ok (.iadd, 1) := by decide +kernel
theorem dX4_slotOf_10 : decode cX4_slotOf 10 = .ok (.ireturn, 1) := by decide +kernel
theorem dX4_find_0 : decode cX4_find 0 = .ok (.iconst 0, 1) := by decide +kernel
theorem dX4_find_1 : decode cX4_find 1 = .ok (.istore 4, 2) := by decide +kernel
theorem dX4_find_3 : decode cX4_find 3 = .ok (.iload 4, 2) := by decide +kernel
theorem dX4_find_5 : decode cX4_find 5 = .ok (.iconst 4, 1) := by decide +kernel
theorem dX4_find_6 : decode cX4_find 6 = .ok (.if_icmp .ge 42, 3) := by decide +kernel
theorem dX4_find_9 : decode cX4_find 9 = .ok (.iload_n 1, 1) := by decide +kernel
theorem dX4_find_10 : decode cX4_find 10 = .ok (.iload_n 2, 1) := by decide +kernel
theorem dX4_find_11 : decode cX4_find 11 = .ok (.iload 4, 2) := by decide +kernel
theorem dX4_find_13 : decode cX4_find 13 = .ok (.invokestatic 85, 3) := by decide +kernel
theorem dX4_find_16 : decode cX4_find 16 = .ok (.istore 5, 2) := by decide +kernel
theorem dX4_find_18 : decode cX4_find 18 = .ok (.aload_n 0, 1) := by decide +kernel
theorem dX4_find_19 : decode cX4_find 19 = .ok (.getfield 7, 3) := by decide +kernel
theorem dX4_find_22 : decode cX4_find 22 = .ok (.iload 5, 2) := by decide +kernel
theorem dX4_find_24 : decode cX4_find 24 = .ok (.baload, 1) := by decide +kernel
theorem dX4_find_25 : decode cX4_find 25 = .ok (.ifCond .eq 17, 3) := by decide +kernel
theorem dX4_find_28 : decode cX4_find 28 = .ok (.aload_n 0, 1) := by decide +kernel
theorem dX4_find_29 : decode cX4_find 29 = .ok (.getfield 13, 3) := by decide +kernel
theorem dX4_find_32 : decode cX4_find 32 = .ok (.iload 5, 2) := by decide +kernel
theorem dX4_find_34 : decode cX4_find 34 = .ok (.iaload, 1) := by decide +kernel
theorem dX4_find_35 : decode cX4_find 35 = .ok (.iload_n 3, 1) := by decide +kernel
theorem dX4_find_36 : decode cX4_find 36 = .ok (.if_icmp .ne 6, 3) := by decide +kernel
theorem dX4_find_39 : decode cX4_find 39 = .ok (.iload 5, 2) := by decide +kernel
theorem dX4_find_41 : decode cX4_find 41 = .ok (.ireturn, 1) := by decide +kernel
theorem dX4_find_42 : decode cX4_find 42 = .ok (.iinc 4 1, 3) := by decide +kernel
theorem dX4_find_45 : decode cX4_find 45 = .ok (.goto (-42), 3) := by decide +kernel
theorem dX4_find_48 : decode cX4_find 48 = .ok (.iconst (-1), 1) := by decide +kernel
theorem dX4_find_49 : decode cX4_find 49 = .ok (.ireturn, 1) := by decide +kernel
theorem dX4_place_0 : decode cX4_place 0 = .ok (.aload_n 0, 1) := by decide +kernel
theorem dX4_place_1 : decode cX4_place 1 = .ok (.iload_n 1, 1) := by decide +kernel
theorem dX4_place_2 : decode cX4_place 2 = .ok (.iload_n 3, 1) := by decide +kernel
theorem dX4_place_3 : decode cX4_place 3 = .ok (.iload_n 2, 1) := by decide +kernel
theorem dX4_place_4 : decode cX4_place 4 = .ok (.iconst 0, 1) := by decide +kernel
theorem dX4_place_5 : decode cX4_place 5 = .ok (.invokestatic 89, 3) := by decide +kernel
theorem dX4_place_8 : decode cX4_place 8 = .ok (.iload_n 3, 1) := by decide +kernel
theorem dX4_place_9 : decode cX4_place 9 = .ok (.invokevirtual 92, 3) := by decide +kernel
theorem dX4_place_12 : decode cX4_place 12 = .ok (.istore 4, 2) := by decide +kernel
