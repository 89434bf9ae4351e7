theorem dX4_place_14 : decode cX4_place 14 = .ok (.iload 4, 2) := by decide +kernel
theorem dX4_place_16 : decode cX4_place 16 = .ok (.ifCond .ge 18, 3) := by decide +kernel
theorem dX4_place_19 : decode cX4_place 19 = .ok (.aload_n 0, 1) := by decide +kernel
theorem dX4_place_20 : decode cX4_place 20 = .ok (.iload_n 1, 1) := by decide +kernel
theorem dX4_place_21 : decode cX4_place 21 = .ok (.iload_n 3, 1) := by decide +kernel
theorem dX4_place_22 : decode cX4_place 22 = .ok (.iload_n 2, 1) := by decide +kernel
theorem dX4_place_23 : decode cX4_place 23 = .ok (.iconst 1, 1) := by decide +kernel
theorem dX4_place_24 : decode cX4_place 24 = .ok (.invokestatic 89, 3) := by decide +kernel
theorem dX4_place_27 : decode cX4_place 27 = .ok (.iload_n 3, 1) := by decide +kernel
theorem dX4_place_28 : decode cX4_place 28 = .ok (.invokevirtual 92, 3) := by decide +kernel
theorem dX4_place_31 : decode cX4_place 31 = .ok (.goto 5, 3) := by decide +kernel
theorem dX4_place_34 : decode cX4_place 34 = .ok (.iload 4, 2) := by decide +kernel
theorem dX4_place_36 : decode cX4_place 36 = .ok (.istore 4, 2) := by decide +kernel
theorem dX4_place_38 : decode cX4_place 38 = .ok (.iload 4, 2) := by decide +kernel
theorem dX4_place_40 : decode cX4_place 40 = .ok (.ifCond .ge 14, 3) := by decide +kernel
theorem dX4_place_43 : decode cX4_place 43 = .ok (.aload_n 0, 1) := by decide +kernel
theorem dX4_place_44 : decode cX4_place 44 = .ok (.iload_n 1, 1) := by decide +kernel
theorem dX4_place_45 : decode cX4_place 45 = .ok (.bipush 8, 2) := by decide +kernel
theorem dX4_place_47 : decode cX4_place 47 = .ok (.iload_n 3, 1) := by decide +kernel
theorem dX4_place_48 : decode cX4_place 48 = .ok (.invokevirtual 92, 3) := by decide +kernel
theorem dX4_place_51 : decode cX4_place 51 = .ok (.goto 5, 3) := by decide +kernel
theorem dX4_place_54 : decode cX4_place 54 = .ok (.iload 4, 2) := by decide +kernel
theorem dX4_place_56 : decode cX4_place 56 = .ok (.ireturn, 1) := by decide +kernel
theorem dX4_empty_0 : decode cX4_empty 0 = .ok (.iconst 0, 1) := by decide +kernel
theorem dX4_empty_1 : decode cX4_empty 1 = .ok (.istore_n 3, 1) := by decide +kernel
theorem dX4_empty_2 : decode cX4_empty 2 = .ok (.iload_n 3, 1) := by decide +kernel
theorem dX4_empty_3 : decode cX4_empty 3 = .ok (.iconst 4, 1) := by decide +kernel
theorem dX4_empty_4 : decode cX4_empty 4 = .ok (.if_icmp .ge 30, 3) := by decide +kernel
theorem dX4_empty_7 : decode cX4_empty 7 = .ok (.aload_n 0, 1) := by decide +kernel
theorem dX4_empty_8 : decode cX4_empty 8 = .ok (.getfield 7, 3) := by decide +kernel
theorem dX4_empty_11 : decode cX4_empty 11 = .ok (.iload_n 1, 1) := by decide +kernel
theorem dX4_empty_12 : decode cX4_empty 12 = .ok (.iload_n 2, 1) := by decide +kernel
theorem dX4_empty_13 : decode cX4_empty 13 = .ok (.iload_n 3, 1) := by decide +kernel
theorem dX4_empty_14 : decode cX4_empty 14 = .ok (.invokestatic 85, 3) := by decide +kernel
theorem dX4_empty_17 : decode cX4_empty 17 = .ok (.baload, 1) := by decide +kernel
theorem dX4_empty_18 : decode cX4_empty 18 = .ok (.ifCond .ne 10, 3) := by decide +kernel
theorem dX4_empty_21 : decode cX4_empty 21 = .ok (.iload_n 1, 1) := by decide +kernel
theorem dX4_empty_22 : decode cX4_empty 22 = .ok (.iload_n 2, 1) := by decide +kernel
theorem dX4_empty_23 : decode cX4_empty 23 = .ok (.iload_n 3, 1) := by decide +kernel
theorem dX4_empty_24 : decode cX4_empty 24 = .ok (.invokestatic 85, 3) := by decide +kernel
theorem dX4_empty_27 : decode cX4_empty 27 = .ok (.ireturn, 1) := by decide +kernel
theorem dX4_empty_28 : decode cX4_empty 28 = .ok (.iinc 3 1, 3) := by decide +kernel
theorem dX4_empty_31 : decode cX4_empty 31 = .ok (.goto (-29), 3) := by decide +kernel
theorem dX4_empty_34 : decode cX4_empty 34 = .ok (.iconst (-1), 1) := by decide +kernel
theorem dX4_empty_35 : decode cX4_empty 35 = .ok (.ireturn, 1) := by decide +kernel
theorem dX4_finish_0 : decode cX4_finish 0 = .ok (.aload_n 0, 1) := by decide +kernel
theorem dX4_finish_1 : decode cX4_finish 1 = .ok (.getfield 50, 3) := by decide +kernel
theorem dX4_finish_4 : decode cX4_finish 4 = .ok (.iload_n 1, 1) := by decide +kernel
theorem dX4_finish_5 : decode cX4_finish 5 = .ok (.iaload, 1) := by decide +kernel
theorem dX4_finish_6 : decode cX4_finish 6 = .ok (.iconst 1, 1) := by decide +kernel
theorem dX4_finish_7 : decode cX4_finish 7 = .ok (.if_icmp .ne 26, 3) := by decide +kernel
theorem dX4_finish_10 : decode cX4_finish 10 = .ok (.aload_n 0, 1) := by decide +kernel
theorem dX4_finish_11 : decode cX4_finish 11 = .ok (.aload_n 0, 1) := by decide +kernel
theorem dX4_finish_12 : decode cX4_finish 12 = .ok (.getfield 53, 3) := by decide +kernel
theorem dX4_finish_15 : decode cX4_finish 15 = .ok (.iload_n 1, 1) := by decide +kernel
theorem dX4_finish_16 : decode cX4_finish 16 = .ok (.iaload, 1) := by decide +kernel
theorem dX4_finish_17 : decode cX4_finish 17 = .ok (.putfield 95, 3) := by decide +kernel
theorem dX4_finish_20 : decode cX4_finish 20 = .ok (.aload_n 0, 1) := by decide +kernel
theorem dX4_finish_21 : decode cX4_finish 21 = .ok (.aload_n 0, 1) := by decide +kernel
theorem dX4_finish_22 : decode cX4_finish 22 = .ok (.getfield 56, 3) := by decide +kernel
theorem dX4_finish_25 : decode cX4_finish 25 = .ok (.iload_n 1, 1) := by decide +kernel
theorem dX4_finish_26 : decode cX4_finish 26 = .ok (.iaload, 1) := by decide +kernel
theorem dX4_finish_27 : decode cX4_finish 27 = .ok (.putfield 98, 3) := by decide +kernel
theorem dX4_finish_30 : decode cX4_finish 30 = .ok (.goto 168, 3) := by decide +kernel
theorem dX4_finish_33 : decode cX4_finish 33 = .ok (.aload_n 0, 1) := by decide +kernel
theorem dX4_finish_34 : decode cX4_finish 34 = .ok (.getfield 50, 3) := by decide +kernel
theorem dX4_finish_37 : decode cX4_finish 37 = .ok (.iload_n 1, 1) := by decide +kernel
theorem dX4_finish_38 : decode cX4_finish 38 = .ok (.iaload, 1) := by decide +kernel
theorem dX4_finish_39 : decode cX4_finish 39 = .ok (.iconst 2, 1) := by decide +kernel
theorem dX4_finish_40 : decode cX4_finish 40 = .ok (.if_icmp .ne 83, 3) := by decide +kernel
theorem dX4_finish_43 : decode cX4_finish 43 = .ok (.aload_n 0, 1) := by decide +kernel
theorem dX4_finish_44 : decode cX4_finish 44 = .ok (.aload_n 0, 1) := by decide +kernel
theorem dX4_finish_45 : decode cX4_finish 45 = .ok (.getfield 56, 3) := by decide +kernel
theorem dX4_finish_48 : decode cX4_finish 48 = .ok (.iload_n 1, 1) := by decide +kernel
theorem dX4_finish_49 : decode cX4_finish 49 = .ok (.iaload, 1) := by decide +kernel
theorem dX4_finish_50 : decode cX4_finish 50 = .ok (.putfield 101, 3) := by decide +kernel
theorem dX4_finish_53 : decode cX4_finish 53 = .ok (.iconst 0, 1) := by decide +kernel
theorem dX4_finish_54 : decode cX4_finish 54 = .ok (.istore_n 2, 1) := by decide +kernel
theorem dX4_finish_55 : decode cX4_finish 55 = .ok (.iload_n 2, 1) := by decide +kernel
theorem dX4_finish_56 : decode cX4_finish 56 = .ok (.aload_n 0, 1) := by decide +kernel
theorem dX4_finish_57 : decode cX4_finish 57 = .ok (.getfield 101, 3) := by decide +kernel
theorem dX4_finish_60 : decode cX4_finish 60 = .ok (.if_icmp .ge 60, 3) := by decide +kernel
theorem dX4_finish_63 : decode cX4_finish 63 = .ok (.aload_n 0, 1) := by decide +kernel
theorem dX4_finish_64 : decode cX4_finish 64 = .ok (.getfield 41, 3) := by decide +kernel
theorem dX4_finish_67 : decode cX4_finish 67 = .ok (.iload_n 2, 1) := by decide +kernel
theorem dX4_finish_68 : decode cX4_finish 68 = .ok (.aload_n 0, 1) := by decide +kernel
theorem dX4_finish_69 : decode cX4_finish 69 = .ok (.getfield 62, 3) := by decide +kernel
theorem dX4_finish_72 : decode cX4_finish 72 = .ok (.bipush 8, 2) := by decide +kernel
theorem dX4_finish_74 : decode cX4_finish 74 = .ok (.iload_n 1, 1) := by decide +kernel
theorem dX4_finish_75 : decode cX4_finish 75 = .ok (.imul, 1) := by decide +kernel
theorem dX4_finish_76 : decode cX4_finish 76 = .ok (.iload_n 2, 1) := by decide +kernel
theorem dX4_finish_77 : decode cX4_finish 77 = .ok (.iadd, 1) := by decide +kernel
theorem dX4_finish_78 : decode cX4_finish 78 = .ok (.iaload, 1) := by decide +kernel
theorem dX4_finish_79 : decode cX4_finish 79 = .ok (.iastore, 1) := by decide +kernel
theorem dX4_finish_80 : decode cX4_finish 80 = .ok (.aload_n 0, 1) := by decide +kernel
theorem dX4_finish_81 : decode cX4_finish 81 = .ok (.getfield 44, 3) := by decide +kernel
theorem dX4_finish_84 : decode cX4_finish 84 = .ok (.iload_n 2, 1) := by decide +kernel
theorem dX4_finish_85 : decode cX4_finish 85 = .ok (.aload_n 0, 1) := by decide +kernel
theorem dX4_finish_86 : decode cX4_finish 86 = .ok (.getfield 65, 3) := by decide +kernel
theorem dX4_finish_89 : decode cX4_finish 89 = .ok (.bipush 8, 2) := by decide +kernel
theorem dX4_finish_91 : decode cX4_finish 91 = .ok (.iload_n 1, 1) := by decide +kernel
theorem dX4_finish_92 : decode cX4_finish 92 = .ok (.imul, 1) := by decide +kernel
theorem dX4_finish_93 : decode cX4_finish 93 = .ok (.iload_n 2, 1) := by decide +kernel
theorem dX4_finish_94 : decode cX4_finish 94 = .ok (.iadd, 1) := by decide +kernel
theorem dX4_finish_95 : decode cX4_finish 95 = .ok (.iaload, 1) := by decide +kernel
theorem dX4_finish_96 : decode cX4_finish 96 = .ok (.iastore, 1) := by decide +kernel
theorem dX4_finish_97 : decode cX4_finish 97 = .ok (.aload_n 0, 1) := by decide +kernel
theorem dX4_finish_98 : decode cX4_finish 98 = .ok (.getfield 47, 3) := by decide +kernel
theorem dX4_finish_101 : decode cX4_finish 101 = .ok (.iload_n 2, 1) := by decide +kernel
theorem dX4_finish_102 : decode cX4_finish 102 = .ok (.aload_n 0, 1) := by decide +kernel
theorem dX4_finish_103 : decode cX4_finish 103 = .ok (.getfield 68, 3) := by decide +kernel
theorem dX4_finish_106 : decode cX4_finish 106 = .ok (.bipush 8, 2) := by decide +kernel
theorem dX4_finish_108 : decode cX4_finish 108 = .ok (.iload_n 1, 1) := by decide +kernel
theorem dX4_finish_109 : decode cX4_finish 109 = .ok (.imul, 1) := by decide +kernel
theorem dX4_finish_110 : decode cX4_finish 110 = .ok (.iload_n 2, 1) := by decide +kernel
theorem dX4_finish_111 : decode cX4_finish 111 = .ok (.iadd, 1) := by decide +kernel
theorem dX4_finish_112 : decode cX4_finish 112 = .ok (.iaload, 1) := by decide +kernel
theorem dX4_finish_113 : decode cX4_finish 113 = .ok (.iastore, 1) := by decide +kernel
theorem dX4_finish_114 : decode cX4_finish 114 = .ok (.iinc 2 1, 3) := by decide +kernel
theorem dX4_finish_117 : decode cX4_finish 117 = .ok (.goto (-62), 3) := by decide +kernel
theorem dX4_finish_120 : decode cX4_finish 120 = .ok (.goto 78, 3) := by decide +kernel
theorem dX4_finish_123 : decode cX4_finish 123 = .ok (.iconst 0, 1) := by decide +kernel
theorem dX4_finish_124 : decode cX4_finish 124 = .ok (.istore_n 2, 1) := by decide +kernel
theorem dX4_finish_125 : decode cX4_finish 125 = .ok (.iload_n 2, 1) := by decide +kernel
theorem dX4_finish_126 : decode cX4_finish 126 = .ok (.iconst 4, 1) := by decide +kernel
theorem dX4_finish_127 : decode cX4_finish 127 = .ok (.if_icmp .ge 71, 3) := by decide +kernel
theorem dX4_finish_130 : decode cX4_finish 130 = .ok (.iconst 4, 1) := by decide +kernel
theorem dX4_finish_131 : decode cX4_finish 131 = .ok (.aload_n 0, 1) := by decide +kernel
theorem dX4_finish_132 : decode cX4_finish 132 = .ok (.getfield 53, 3) := by decide +kernel
theorem dX4_finish_135 : decode cX4_finish 135 = .ok (.iload_n 1, 1) := by decide +kernel
theorem dX4_finish_136 : decode cX4_finish 136 = .ok (.iaload, 1) := by decide +kernel
theorem dX4_finish_137 : decode cX4_finish 137 = .ok (.imul, 1) := by decide +kernel
theorem dX4_finish_138 : decode cX4_finish 138 = .ok (.iload_n 2, 1) := by decide +kernel
theorem dX4_finish_139 : decode cX4_finish 139 = .ok (.iadd, 1) := by decide +kernel
theorem dX4_finish_140 : decode cX4_finish 140 = .ok (.istore_n 3, 1) := by decide +kernel
theorem dX4_finish_141 : decode cX4_finish 141 = .ok (.aload_n 0, 1) := by decide +kernel
theorem dX4_finish_142 : decode cX4_finish 142 = .ok (.getfield 32, 3) := by decide +kernel
theorem dX4_finish_145 : decode cX4_finish 145 = .ok (.iload_n 3, 1) := by decide +kernel
theorem dX4_finish_146 : decode cX4_finish 146 = .ok (.aload_n 0, 1) := by decide +kernel
theorem dX4_finish_147 : decode cX4_finish 147 = .ok (.getfield 59, 3) := by decide +kernel
theorem dX4_finish_150 : decode cX4_finish 150 = .ok (.bipush 8, 2) := by decide +kernel
theorem dX4_finish_152 : decode cX4_finish 152 = .ok (.iload_n 1, 1) := by decide +kernel
theorem dX4_finish_153 : decode cX4_finish 153 = .ok (.imul, 1) := by decide +kernel
theorem dX4_finish_154 : decode cX4_finish 154 = .ok (.iload_n 2, 1) := by decide +kernel
theorem dX4_finish_155 : decode cX4_finish 155 = .ok (.iadd, 1) := by decide +kernel
theorem dX4_finish_156 : decode cX4_finish 156 = .ok (.baload, 1) := by decide +kernel
theorem dX4_finish_157 : decode cX4_finish 157 = .ok (.bastore, 1) := by decide +kernel
theorem dX4_finish_158 : decode cX4_finish 158 = .ok (.aload_n 0, 1) := by decide +kernel
theorem dX4_finish_159 : decode cX4_finish 159 = .ok (.getfield 35, 3) := by decide +kernel
theorem dX4_finish_162 : decode cX4_finish 162 = .ok (.iload_n 3, 1) := by decide +kernel
theorem dX4_finish_163 : decode cX4_finish 163 = .ok (.aload_n 0, 1) := by decide +kernel
theorem dX4_finish_164 : decode cX4_finish 164 = .ok (.getfield 65, 3) := by decide +kernel
theorem dX4_finish_167 : decode cX4_finish 167 = .ok (.bipush 8, 2) := by decide +kernel
theorem dX4_finish_169 : decode cX4_finish 169 = .ok (.iload_n 1, 1) := by decide +kernel
theorem dX4_finish_170 : decode cX4_finish 170 = .ok (.imul, 1) := by decide +kernel
theorem dX4_finish_171 : decode cX4_finish 171 = .ok (.iload_n 2, 1) := by decide +kernel
theorem dX4_finish_172 : decode cX4_finish 172 = .ok (.iadd, 1) := by decide +kernel
theorem dX4_finish_173 : decode cX4_finish 173 = .ok (.iaload, 1) := by decide +kernel
theorem dX4_finish_174 : decode cX4_finish 174 = .ok (.iastore, 1) := by decide +kernel
theorem dX4_finish_175 : decode cX4_finish 175 = .ok (.aload_n 0, 1) := by decide +kernel
theorem dX4_finish_176 : decode cX4_finish 176 = .ok (.getfield 38, 3) := by decide +kernel
theorem dX4_finish_179 : decode cX4_finish 179 = .ok (.iload_n 3, 1) := by decide +kernel
theorem dX4_finish_180 : decode cX4_finish 180 = .ok (.aload_n 0, 1) := by decide +kernel
theorem dX4_finish_181 : decode cX4_finish 181 = .ok (.getfield 68, 3) := by decide +kernel
theorem dX4_finish_184 : decode cX4_finish 184 = .ok (.bipush 8, 2) := by decide +kernel
theorem dX4_finish_186 : decode cX4_finish 186 = .ok (.iload_n 1, 1) := by decide +kernel
theorem dX4_finish_187 : decode cX4_finish 187 = .ok (.imul, 1) := by decide +kernel
theorem dX4_finish_188 : decode cX4_finish 188 = .ok (.iload_n 2, 1) := by decide +kernel
theorem dX4_finish_189 : decode cX4_finish 189 = .ok (.iadd, 1) := by decide +kernel
theorem dX4_finish_190 : decode cX4_finish 190 = .ok (.iaload, 1) := by decide +kernel
theorem dX4_finish_191 : decode cX4_finish 191 = .ok (.iastore, 1) := by decide +kernel
theorem dX4_finish_192 : decode cX4_finish 192 = .ok (.iinc 2 1, 3) := by decide +kernel
theorem dX4_finish_195 : decode cX4_finish 195 = .ok (.goto (-70), 3) := by decide +kernel
theorem dX4_finish_198 : decode cX4_finish 198 = .ok (.return_, 1) := by decide +kernel
theorem dX4_flush_0 : decode cX4_flush 0 = .ok (.aload_n 0, 1) := by decide +kernel
theorem dX4_flush_1 : decode cX4_flush 1 = .ok (.getfield 104, 3) := by decide +kernel
theorem dX4_flush_4 : decode cX4_flush 4 = .ok (.istore_n 1, 1) := by decide +kernel
theorem dX4_flush_5 : decode cX4_flush 5 = .ok (.iconst 0, 1) := by decide +kernel
theorem dX4_flush_6 : decode cX4_flush 6 = .ok (.istore_n 2, 1) := by decide +kernel
theorem dX4_flush_7 : decode cX4_flush 7 = .ok (.iload_n 2, 1) := by decide +kernel
theorem dX4_flush_8 : decode cX4_flush 8 = .ok (.iload_n 1, 1) := by decide +kernel
theorem dX4_flush_9 : decode cX4_flush 9 = .ok (.if_icmp .ge 14, 3) := by decide +kernel
theorem dX4_flush_12 : decode cX4_flush 12 = .ok (.aload_n 0, 1) := by decide +kernel
theorem dX4_flush_13 : decode cX4_flush 13 = .ok (.iload_n 2, 1) := by decide +kernel
theorem dX4_flush_14 : decode cX4_flush 14 = .ok (.invokevirtual 107, 3) := by decide +kernel
theorem dX4_flush_17 : decode cX4_flush 17 = .ok (.iinc 2 1, 3) := by decide +kernel
theorem dX4_flush_20 : decode cX4_flush 20 = .ok (.goto (-13), 3) := by decide +kernel
theorem dX4_flush_23 : decode cX4_flush 23 = .ok (.aload_n 0, 1) := by decide +kernel
theorem dX4_flush_24 : decode cX4_flush 24 = .ok (.iconst 0, 1) := by decide +kernel
theorem dX4_flush_25 : decode cX4_flush 25 = .ok (.putfield 104, 3) := by decide +kernel
theorem dX4_flush_28 : decode cX4_flush 28 = .ok (.iload_n 1, 1) := by decide +kernel
theorem dX4_flush_29 : decode cX4_flush 29 = .ok (.ireturn, 1) := by decide +kernel
theorem dX4_next_0 : decode cX4_next 0 = .ok (.aload_n 0, 1) := by decide +kernel
theorem dX4_next_1 : decode cX4_next 1 = .ok (.getfield 104, 3) := by decide +kernel
theorem dX4_next_4 : decode cX4_next 4 = .ok (.bipush 40, 2) := by decide +kernel
theorem dX4_next_6 : decode cX4_next 6 = .ok (.if_icmp .ne 8, 3) := by decide +kernel
theorem dX4_next_9 : decode cX4_next 9 = .ok (.aload_n 0, 1) := by decide +kernel
theorem dX4_next_10 : decode cX4_next 10 = .ok (.invokevirtual 111, 3) := by decide +kernel
theorem dX4_next_13 : decode cX4_next 13 = .ok (.istore_n 2, 1) := by decide +kernel
theorem dX4_next_14 : decode cX4_next 14 = .ok (.aload_n 0, 1) := by decide +kernel
theorem dX4_next_15 : decode cX4_next 15 = .ok (.getfield 50, 3) := by decide +kernel
theorem dX4_next_18 : decode cX4_next 18 = .ok (.aload_n 0, 1) := by decide +kernel
theorem dX4_next_19 : decode cX4_next 19 = .ok (.getfield 104, 3) := by decide +kernel
theorem dX4_next_22 : decode cX4_next 22 = .ok (.iload_n 1, 1) := by decide +kernel
theorem dX4_next_23 : decode cX4_next 23 = .ok (.iastore, 1) := by decide +kernel
theorem dX4_next_24 : decode cX4_next 24 = .ok (.aload_n 0, 1) := by decide +kernel
theorem dX4_next_25 : decode cX4_next 25 = .ok (.dup, 1) := by decide +kernel
theorem dX4_next_26 : decode cX4_next 26 = .ok (.getfield 115, 3) := by decide +kernel
theorem dX4_next_29 : decode cX4_next 29 = .ok (.iconst 1, 1) := by decide +kernel
theorem dX4_next_30 : decode cX4_next 30 = .ok (.iadd, 1) := by decide +kernel
theorem dX4_next_31 : decode cX4_next 31 = .ok (.putfield 115, 3) := by decide +kernel
theorem dX4_next_34 : decode cX4_next 34 = .ok (.aload_n 0, 1) := by decide +kernel
theorem dX4_next_35 : decode cX4_next 35 = .ok (.dup, 1) := by decide +kernel
theorem dX4_next_36 : decode cX4_next 36 = .ok (.getfield 104, 3) := by decide +kernel
theorem dX4_next_39 : decode cX4_next 39 = .ok (.iconst 1, 1) := by decide +kernel
theorem dX4_next_40 : decode cX4_next 40 = .ok (.iadd, 1) := by decide +kernel
theorem dX4_next_41 : decode cX4_next 41 = .ok (.putfield 104, 3) := by decide +kernel
theorem dX4_next_44 : decode cX4_next 44 = .ok (.aload_n 0, 1) := by decide +kernel
theorem dX4_next_45 : decode cX4_next 45 = .ok (.getfield 104, 3) := by decide +kernel
theorem dX4_next_48 : decode cX4_next 48 = .ok (.iconst 1, 1) := by decide +kernel
theorem dX4_next_49 : decode cX4_next 49 = .ok (.isub, 1) := by decide +kernel
theorem dX4_next_50 : decode cX4_next 50 = .ok (.ireturn, 1) := by decide +kernel
theorem dX4_writePage_0 : decode cX4_writePage 0 = .ok (.aload_n 0, 1) := by decide +kernel
theorem dX4_writePage_1 : decode cX4_writePage 1 = .ok (.iconst 0, 1) := by decide +kernel
theorem dX4_writePage_2 : decode cX4_writePage 2 = .ok (.invokevirtual 118, 3) := by decide +kernel
theorem dX4_writePage_5 : decode cX4_writePage 5 = .ok (.istore_n 2, 1) := by decide +kernel
theorem dX4_writePage_6 : decode cX4_writePage 6 = .ok (.aload_n 0, 1) := by decide +kernel
theorem dX4_writePage_7 : decode cX4_writePage 7 = .ok (.getfield 53, 3) := by decide +kernel
theorem dX4_writePage_10 : decode cX4_writePage 10 = .ok (.iload_n 2, 1) := by decide +kernel
theorem dX4_writePage_11 : decode cX4_writePage 11 = .ok (.iload_n 1, 1) := by decide +kernel
theorem dX4_writePage_12 : decode cX4_writePage 12 = .ok (.iastore, 1) := by decide +kernel
theorem dX4_writePage_13 : decode cX4_writePage 13 = .ok (.iconst 0, 1) := by decide +kernel
theorem dX4_writePage_14 : decode cX4_writePage 14 = .ok (.istore_n 3, 1) := by decide +kernel
theorem dX4_writePage_15 : decode cX4_writePage 15 = .ok (.iload_n 3, 1) := by decide +kernel
theorem dX4_writePage_16 : decode cX4_writePage 16 = .ok (.iconst 4, 1) := by decide +kernel
theorem dX4_writePage_17 : decode cX4_writePage 17 = .ok (.if_icmp .ge 70, 3) := by decide +kernel
theorem dX4_writePage_20 : decode cX4_writePage 20 = .ok (.iconst 4, 1) := by decide +kernel
theorem dX4_writePage_21 : decode cX4_writePage 21 = .ok (.iload_n 1, 1) := by decide +kernel
theorem dX4_writePage_22 : decode cX4_writePage 22 = .ok (.imul, 1) := by decide +kernel
theorem dX4_writePage_23 : decode cX4_writePage 23 = .ok (.iload_n 3, 1) := by decide +kernel
theorem dX4_writePage_24 : decode cX4_writePage 24 = .ok (.iadd, 1) := by decide +kernel
theorem dX4_writePage_25 : decode cX4_writePage 25 = .ok (.istore 4, 2) := by decide +kernel
theorem dX4_writePage_27 : decode cX4_writePage 27 = .ok (.aload_n 0, 1) := by decide +kernel
theorem dX4_writePage_28 : decode cX4_writePage 28 = .ok (.getfield 59, 3) := by decide +kernel
theorem dX4_writePage_31 : decode cX4_writePage 31 = .ok (.bipush 8, 2) := by decide +kernel
theorem dX4_writePage_33 : decode cX4_writePage 33 = .ok (.iload_n 2, 1) := by decide +kernel
theorem dX4_writePage_34 : decode cX4_writePage 34 = .ok (.imul, 1) := by decide +kernel
theorem dX4_writePage_35 : decode cX4_writePage 35 = .ok (.iload_n 3, 1) := by decide +kernel
theorem dX4_writePage_36 : decode cX4_writePage 36 = .ok (.iadd, 1) := by decide +kernel
theorem dX4_writePage_37 : decode cX4_writePage 37 = .ok (.aload_n 0, 1) := by decide +kernel
theorem dX4_writePage_38 : decode cX4_writePage 38 = .ok (.getfield 7, 3) := by decide +kernel
theorem dX4_writePage_41 : decode cX4_writePage 41 = .ok (.iload 4, 2) := by decide +kernel
theorem dX4_writePage_43 : decode cX4_writePage 43 = .ok (.baload, 1) := by decide +kernel
theorem dX4_writePage_44 : decode cX4_writePage 44 = .ok (.bastore, 1) := by decide +kernel
theorem dX4_writePage_45 : decode cX4_writePage 45 = .ok (.aload_n 0, 1) := by decide +kernel
theorem dX4_writePage_46 : decode cX4_writePage 46 = .ok (.getfield 65, 3) := by decide +kernel
theorem dX4_writePage_49 : decode cX4_writePage 49 = .ok (.bipush 8, 2) := by decide +kernel
theorem dX4_writePage_51 : decode cX4_writePage 51 = .ok (.iload_n 2, 1) := by decide +kernel
theorem dX4_writePage_52 : decode cX4_writePage 52 = .ok (.imul, 1) := by decide +kernel
theorem dX4_writePage_53 : decode cX4_writePage 53 = .ok (.iload_n 3, 1) := by decide +kernel
theorem dX4_writePage_54 : decode cX4_writePage 54 = .ok (.iadd, 1) := by decide +kernel
theorem dX4_writePage_55 : decode cX4_writePage 55 = .ok (.aload_n 0, 1) := by decide +kernel
theorem dX4_writePage_56 : decode cX4_writePage 56 = .ok (.getfield 13, 3) := by decide +kernel
theorem dX4_writePage_59 : decode cX4_writePage 59 = .ok (.iload 4, 2) := by decide +kernel
theorem dX4_writePage_61 : decode cX4_writePage 61 = .ok (.iaload, 1) := by decide +kernel
theorem dX4_writePage_62 : decode cX4_writePage 62 = .ok (.iastore, 1) := by decide +kernel
theorem dX4_writePage_63 : decode cX4_writePage 63 = .ok (.aload_n 0, 1) := by decide +kernel
theorem dX4_writePage_64 : decode cX4_writePage 64 = .ok (.getfield 68, 3) := by decide +kernel
theorem dX4_writePage_67 : decode cX4_writePage 67 = .ok (.bipush 8, 2) := by decide +kernel
theorem dX4_writePage_69 : decode cX4_writePage 69 = .ok (.iload_n 2, 1) := by decide +kernel
theorem dX4_writePage_70 : decode cX4_writePage 70 = .ok (.imul, 1) := by decide +kernel
theorem dX4_writePage_71 : decode cX4_writePage 71 = .ok (.iload_n 3, 1) := by decide +kernel
theorem dX4_writePage_72 : decode cX4_writePage 72 = .ok (.iadd, 1) := by decide +kernel
theorem dX4_writePage_73 : decode cX4_writePage 73 = .ok (.aload_n 0, 1) := by decide +kernel
theorem dX4_writePage_74 : decode cX4_writePage 74 = .ok (.getfield 17, 3) := by decide +kernel
theorem dX4_writePage_77 : decode cX4_writePage 77 = .ok (.iload 4, 2) := by decide +kernel
theorem dX4_writePage_79 : decode cX4_writePage 79 = .ok (.iaload, 1) := by decide +kernel
theorem dX4_writePage_80 : decode cX4_writePage 80 = .ok (.iastore, 1) := by decide +kernel
theorem dX4_writePage_81 : decode cX4_writePage 81 = .ok (.iinc 3 1, 3) := by decide +kernel
theorem dX4_writePage_84 : decode cX4_writePage 84 = .ok (.goto (-69), 3) := by decide +kernel
theorem dX4_writePage_87 : decode cX4_writePage 87 = .ok (.return_, 1) := by decide +kernel
theorem dX4_writeJournal_0 : decode cX4_writeJournal 0 = .ok (.aload_n 0, 1) := by decide +kernel
theorem dX4_writeJournal_1 : decode cX4_writeJournal 1 = .ok (.iconst 2, 1) := by decide +kernel
theorem dX4_writeJournal_2 : decode cX4_writeJournal 2 = .ok (.invokevirtual 118, 3) := by decide +kernel
theorem dX4_writeJournal_5 : decode cX4_writeJournal 5 = .ok (.istore_n 1, 1) := by decide +kernel
theorem dX4_writeJournal_6 : decode cX4_writeJournal 6 = .ok (.aload_n 0, 1) := by decide +kernel
theorem dX4_writeJournal_7 : decode cX4_writeJournal 7 = .ok (.getfield 56, 3) := by decide +kernel
theorem dX4_writeJournal_10 : decode cX4_writeJournal 10 = .ok (.iload_n 1, 1) := by decide +kernel
theorem dX4_writeJournal_11 : decode cX4_writeJournal 11 = .ok (.aload_n 0, 1) := by decide +kernel
theorem dX4_writeJournal_12 : decode cX4_writeJournal 12 = .ok (.getfield 122, 3) := by decide +kernel
theorem dX4_writeJournal_15 : decode cX4_writeJournal 15 = .ok (.iastore, 1) := by decide +kernel
theorem dX4_writeJournal_16 : decode cX4_writeJournal 16 = .ok (.iconst 0, 1) := by decide +kernel
theorem dX4_writeJournal_17 : decode cX4_writeJournal 17 = .ok (.istore_n 2, 1) := by decide +kernel
theorem dX4_writeJournal_18 : decode cX4_writeJournal 18 = .ok (.iload_n 2, 1) := by decide +kernel
theorem dX4_writeJournal_19 : decode cX4_writeJournal 19 = .ok (.aload_n 0, 1) := by decide +kernel
theorem dX4_writeJournal_20 : decode cX4_writeJournal 20 = .ok (.getfield 122, 3) := by decide +kernel
theorem dX4_writeJournal_23 : decode cX4_writeJournal 23 = .ok (.if_icmp .ge 60, 3) := by decide +kernel
theorem dX4_writeJournal_26 : decode cX4_writeJournal 26 = .ok (.aload_n 0, 1) := by decide +kernel
theorem dX4_writeJournal_27 : decode cX4_writeJournal 27 = .ok (.getfield 62, 3) := by decide +kernel
theorem dX4_writeJournal_30 : decode cX4_writeJournal 30 = .ok (.bipush 8, 2) := by decide +kernel
theorem dX4_writeJournal_32 : decode cX4_writeJournal 32 = .ok (.iload_n 1, 1) := by decide +kernel
theorem dX4_writeJournal_33 : decode cX4_writeJournal 33 = .ok (.imul, 1) := by decide +kernel
theorem dX4_writeJournal_34 : decode cX4_writeJournal 34 = .ok (.iload_n 2, 1) := by decide +kernel
theorem dX4_writeJournal_35 : decode cX4_writeJournal 35 = .ok (.iadd, 1) := by decide +kernel
theorem dX4_writeJournal_36 : decode cX4_writeJournal 36 = .ok (.aload_n 0, 1) := by decide +kernel
theorem dX4_writeJournal_37 : decode cX4_writeJournal 37 = .ok (.getfield 23, 3) := by decide +kernel
theorem dX4_writeJournal_40 : decode cX4_writeJournal 40 = .ok (.iload_n 2, 1) := by decide +kernel
theorem dX4_writeJournal_41 : decode cX4_writeJournal 41 = .ok (.iaload, 1) := by decide +kernel
theorem dX4_writeJournal_42 : decode cX4_writeJournal 42 = .ok (.iastore, 1) := by decide +kernel
theorem dX4_writeJournal_43 : decode cX4_writeJournal 43 = .ok (.aload_n 0, 1) := by decide +kernel
theorem dX4_writeJournal_44 : decode cX4_writeJournal 44 = .ok (.getfield 65, 3) := by decide +kernel
theorem dX4_writeJournal_47 : decode cX4_writeJournal 47 = .ok (.bipush 8, 2) := by decide +kernel
theorem dX4_writeJournal_49 : decode cX4_writeJournal 49 = .ok (.iload_n 1, 1) := by decide +kernel
theorem dX4_writeJournal_50 : decode cX4_writeJournal 50 = .ok (.imul, 1) := by decide +kernel
theorem dX4_writeJournal_51 : decode cX4_writeJournal 51 = .ok (.iload_n 2, 1) := by decide +kernel
theorem dX4_writeJournal_52 : decode cX4_writeJournal 52 = .ok (.iadd, 1) := by decide +kernel
theorem dX4_writeJournal_53 : decode cX4_writeJournal 53 = .ok (.aload_n 0, 1) := by decide +kernel
theorem dX4_writeJournal_54 : decode cX4_writeJournal 54 = .ok (.getfield 26, 3) := by decide +kernel
theorem dX4_writeJournal_57 : decode cX4_writeJournal 57 = .ok (.iload_n 2, 1) := by decide +kernel
theorem dX4_writeJournal_58 : decode cX4_writeJournal 58 = .ok (.iaload, 1) := by decide +kernel
theorem dX4_writeJournal_59 : decode cX4_writeJournal 59 = .ok (.iastore, 1) := by decide +kernel
theorem dX4_writeJournal_60 : decode cX4_writeJournal 60 = .ok (.aload_n 0, 1) := by decide +kernel
theorem dX4_writeJournal_61 : decode cX4_writeJournal 61 = .ok (.getfield 68, 3) := by decide +kernel
theorem dX4_writeJournal_64 : decode cX4_writeJournal 64 = .ok (.bipush 8, 2) := by decide +kernel
theorem dX4_writeJournal_66 : decode cX4_writeJournal 66 = .ok (.iload_n 1, 1) := by decide +kernel
theorem dX4_writeJournal_67 : decode cX4_writeJournal 67 = .ok (.imul, 1) := by decide +kernel
theorem dX4_writeJournal_68 : decode cX4_writeJournal 68 = .ok (.iload_n 2, 1) := by decide +kernel
theorem dX4_writeJournal_69 : decode cX4_writeJournal 69 = .ok (.iadd, 1) := by decide +kernel
theorem dX4_writeJournal_70 : decode cX4_writeJournal 70 = .ok (.aload_n 0, 1) := by decide +kernel
theorem dX4_writeJournal_71 : decode cX4_writeJournal 71 = .ok (.getfield 29, 3) := by decide +kernel
theorem dX4_writeJournal_74 : decode cX4_writeJournal 74 = .ok (.iload_n 2, 1) := by decide +kernel
theorem dX4_writeJournal_75 : decode cX4_writeJournal 75 = .ok (.iaload, 1) := by decide +kernel
theorem dX4_writeJournal_76 : decode cX4_writeJournal 76 = .ok (.iastore, 1) := by decide +kernel
theorem dX4_writeJournal_77 : decode cX4_writeJournal 77 = .ok (.iinc 2 1, 3) := by decide +kernel
theorem dX4_writeJournal_80 : decode cX4_writeJournal 80 = .ok (.goto (-62), 3) := by decide +kernel
theorem dX4_writeJournal_83 : decode cX4_writeJournal 83 = .ok (.return_, 1) := by decide +kernel
theorem dX4_writeRoot_0 : decode cX4_writeRoot 0 = .ok (.aload_n 0, 1) := by decide +kernel
theorem dX4_writeRoot_1 : decode cX4_writeRoot 1 = .ok (.iconst 1, 1) := by decide +kernel
theorem dX4_writeRoot_2 : decode cX4_writeRoot 2 = .ok (.invokevirtual 118, 3) := by decide +kernel
theorem dX4_writeRoot_5 : decode cX4_writeRoot 5 = .ok (.istore_n 1, 1) := by decide +kernel
theorem dX4_writeRoot_6 : decode cX4_writeRoot 6 = .ok (.aload_n 0, 1) := by decide +kernel
theorem dX4_writeRoot_7 : decode cX4_writeRoot 7 = .ok (.getfield 53, 3) := by decide +kernel
theorem dX4_writeRoot_10 : decode cX4_writeRoot 10 = .ok (.iload_n 1, 1) := by decide +kernel
theorem dX4_writeRoot_11 : decode cX4_writeRoot 11 = .ok (.aload_n 0, 1) := by decide +kernel
theorem dX4_writeRoot_12 : decode cX4_writeRoot 12 = .ok (.getfield 125, 3) := by decide +kernel
theorem dX4_writeRoot_15 : decode cX4_writeRoot 15 = .ok (.iastore, 1) := by decide +kernel
theorem dX4_writeRoot_16 : decode cX4_writeRoot 16 = .ok (.aload_n 0, 1) := by decide +kernel
theorem dX4_writeRoot_17 : decode cX4_writeRoot 17 = .ok (.getfield 56, 3) := by decide +kernel
theorem dX4_writeRoot_20 : decode cX4_writeRoot 20 = .ok (.iload_n 1, 1) := by decide +kernel
theorem dX4_writeRoot_21 : decode cX4_writeRoot 21 = .ok (.aload_n 0, 1) := by decide +kernel
theorem dX4_writeRoot_22 : decode cX4_writeRoot 22 = .ok (.getfield 128, 3) := by decide +kernel
theorem dX4_writeRoot_25 : decode cX4_writeRoot 25 = .ok (.iastore, 1) := by decide +kernel
theorem dX4_writeRoot_26 : decode cX4_writeRoot 26 = .ok (.return_, 1) := by decide +kernel
theorem dX4_fill_0 : decode cX4_fill 0 = .ok (.aload_n 0, 1) := by decide +kernel
theorem dX4_fill_1 : decode cX4_fill 1 = .ok (.getfield 7, 3) := by decide +kernel
theorem dX4_fill_4 : decode cX4_fill 4 = .ok (.iload_n 1, 1) := by decide +kernel
theorem dX4_fill_5 : decode cX4_fill 5 = .ok (.iconst 1, 1) := by decide +kernel
theorem dX4_fill_6 : decode cX4_fill 6 = .ok (.bastore, 1) := by decide +kernel
theorem dX4_fill_7 : decode cX4_fill 7 = .ok (.aload_n 0, 1) := by decide +kernel
theorem dX4_fill_8 : decode cX4_fill 8 = .ok (.getfield 13, 3) := by decide +kernel
theorem dX4_fill_11 : decode cX4_fill 11 = .ok (.iload_n 1, 1) := by decide +kernel
theorem dX4_fill_12 : decode cX4_fill 12 = .ok (.iload_n 2, 1) := by decide +kernel
theorem dX4_fill_13 : decode cX4_fill 13 = .ok (.iastore, 1) := by decide +kernel
theorem dX4_fill_14 : decode cX4_fill 14 = .ok (.aload_n 0, 1) := by decide +kernel
theorem dX4_fill_15 : decode cX4_fill 15 = .ok (.getfield 17, 3) := by decide +kernel
theorem dX4_fill_18 : decode cX4_fill 18 = .ok (.iload_n 1, 1) := by decide +kernel
theorem dX4_fill_19 : decode cX4_fill 19 = .ok (.iload_n 3, 1) := by decide +kernel
theorem dX4_fill_20 : decode cX4_fill 20 = .ok (.iastore, 1) := by decide +kernel
theorem dX4_fill_21 : decode cX4_fill 21 = .ok (.iload 4, 2) := by decide +kernel
theorem dX4_fill_23 : decode cX4_fill 23 = .ok (.ifCond .eq 10, 3) := by decide +kernel
theorem dX4_fill_26 : decode cX4_fill 26 = .ok (.aload_n 0, 1) := by decide +kernel
theorem dX4_fill_27 : decode cX4_fill 27 = .ok (.iload_n 1, 1) := by decide +kernel
theorem dX4_fill_28 : decode cX4_fill 28 = .ok (.iconst 4, 1) := by decide +kernel
theorem dX4_fill_29 : decode cX4_fill 29 = .ok (.idiv, 1) := by decide +kernel
theorem dX4_fill_30 : decode cX4_fill 30 = .ok (.invokevirtual 131, 3) := by decide +kernel
theorem dX4_fill_33 : decode cX4_fill 33 = .ok (.return_, 1) := by decide +kernel
theorem dX4_isOnPath_0 : decode cX4_isOnPath 0 = .ok (.iconst 0, 1) := by decide +kernel
theorem dX4_isOnPath_1 : decode cX4_isOnPath 1 = .ok (.istore_n 2, 1) := by decide +kernel
theorem dX4_isOnPath_2 : decode cX4_isOnPath 2 = .ok (.iconst 0, 1) := by decide +kernel
theorem dX4_isOnPath_3 : decode cX4_isOnPath 3 = .ok (.istore_n 3, 1) := by decide +kernel
theorem dX4_isOnPath_4 : decode cX4_isOnPath 4 = .ok (.iload_n 3, 1) := by decide +kernel
theorem dX4_isOnPath_5 : decode cX4_isOnPath 5 = .ok (.aload_n 0, 1) := by decide +kernel
theorem dX4_isOnPath_6 : decode cX4_isOnPath 6 = .ok (.getfield 134, 3) := by decide +kernel
theorem dX4_isOnPath_9 : decode cX4_isOnPath 9 = .ok (.if_icmp .ge 29, 3) := by decide +kernel
theorem dX4_isOnPath_12 : decode cX4_isOnPath 12 = .ok (.iload_n 2, 1) := by decide +kernel
theorem dX4_isOnPath_13 : decode cX4_isOnPath 13 = .ok (.ifCond .ne 13, 3) := by decide +kernel
theorem dX4_isOnPath_16 : decode cX4_isOnPath 16 = .ok (.aload_n 0, 1) := by decide +kernel
theorem dX4_isOnPath_17 : decode cX4_isOnPath 17 = .ok (.getfield 71, 3) := by decide +kernel
theorem dX4_isOnPath_20 : decode cX4_isOnPath 20 = .ok (.iload_n 3, 1) := by decide +kernel
theorem dX4_isOnPath_21 : decode cX4_isOnPath 21 = .ok (.iaload, 1) := by decide +kernel
theorem dX4_isOnPath_22 : decode cX4_isOnPath 22 = .ok (.iload_n 1, 1) := by decide +kernel
theorem dX4_isOnPath_23 : decode cX4_isOnPath 23 = .ok (.if_icmp .ne 7, 3) := by decide +kernel
theorem dX4_isOnPath_26 : decode cX4_isOnPath 26 = .ok (.iconst 1, 1) := by decide +kernel
theorem dX4_isOnPath_27 : decode cX4_isOnPath 27 = .ok (.goto 4, 3) := by decide +kernel
theorem dX4_isOnPath_30 : decode cX4_isOnPath 30 = .ok (.iconst 0, 1) := by decide +kernel
theorem dX4_isOnPath_31 : decode cX4_isOnPath 31 = .ok (.istore_n 2, 1) := by decide +kernel
theorem dX4_isOnPath_32 : decode cX4_isOnPath 32 = .ok (.iinc 3 1, 3) := by decide +kernel
theorem dX4_isOnPath_35 : decode cX4_isOnPath 35 = .ok (.goto (-31), 3) := by decide +kernel
theorem dX4_isOnPath_38 : decode cX4_isOnPath 38 = .ok (.iload_n 2, 1) := by decide +kernel
theorem dX4_isOnPath_39 : decode cX4_isOnPath 39 = .ok (.ireturn, 1) := by decide +kernel
theorem dX4_hasPath_0 : decode cX4_hasPath 0 = .ok (.iload_n 3, 1) := by decide +kernel
theorem dX4_hasPath_1 : decode cX4_hasPath 1 = .ok (.istore 4, 2) := by decide +kernel
theorem dX4_hasPath_3 : decode cX4_hasPath 3 = .ok (.aload_n 0, 1) := by decide +kernel
theorem dX4_hasPath_4 : decode cX4_hasPath 4 = .ok (.iconst 0, 1) := by decide +kernel
theorem dX4_hasPath_5 : decode cX4_hasPath 5 = .ok (.putfield 134, 3) := by decide +kernel
theorem dX4_hasPath_8 : decode cX4_hasPath 8 = .ok (.iconst 0, 1) := by decide +kernel
theorem dX4_hasPath_9 : decode cX4_hasPath 9 = .ok (.istore 5, 2) := by decide +kernel
theorem dX4_hasPath_11 : decode cX4_hasPath 11 = .ok (.iload 5, 2) := by decide +kernel
theorem dX4_hasPath_13 : decode cX4_hasPath 13 = .ok (.bipush 6, 2) := by decide +kernel
theorem dX4_hasPath_15 : decode cX4_hasPath 15 = .ok (.if_icmp .ge 164, 3) := by decide +kernel
theorem dX4_hasPath_18 : decode cX4_hasPath 18 = .ok (.iconst (-1), 1) := by decide +kernel
theorem dX4_hasPath_19 : decode cX4_hasPath 19 = .ok (.istore 6, 2) := by decide +kernel
theorem dX4_hasPath_21 : decode cX4_hasPath 21 = .ok (.iconst 3, 1) := by decide +kernel
theorem dX4_hasPath_22 : decode cX4_hasPath 22 = .ok (.istore 7, 2) := by decide +kernel
theorem dX4_hasPath_24 : decode cX4_hasPath 24 = .ok (.iload 7, 2) := by decide +kernel
theorem dX4_hasPath_26 : decode cX4_hasPath 26 = .ok (.ifCond .lt 42, 3) := by decide +kernel
theorem dX4_hasPath_29 : decode cX4_hasPath 29 = .ok (.iload_n 1, 1) := by decide +kernel
theorem dX4_hasPath_30 : decode cX4_hasPath 30 = .ok (.iload 4, 2) := by decide +kernel
theorem dX4_hasPath_32 : decode cX4_hasPath 32 = .ok (.iload 5, 2) := by decide +kernel
theorem dX4_hasPath_34 : decode cX4_hasPath 34 = .ok (.iload 7, 2) := by decide +kernel
