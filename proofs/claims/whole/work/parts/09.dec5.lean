theorem dX4_hasPath_36 : decode cX4_hasPath 36 = .ok (.iadd, 1) := by decide +kernel
theorem dX4_hasPath_37 : decode cX4_hasPath 37 = .ok (.iconst 4, 1) := by decide +kernel
theorem dX4_hasPath_38 : decode cX4_hasPath 38 = .ok (.irem, 1) := by decide +kernel
theorem dX4_hasPath_39 : decode cX4_hasPath 39 = .ok (.invokestatic 85, 3) := by decide +kernel
theorem dX4_hasPath_42 : decode cX4_hasPath 42 = .ok (.istore 8, 2) := by decide +kernel
theorem dX4_hasPath_44 : decode cX4_hasPath 44 = .ok (.aload_n 0, 1) := by decide +kernel
theorem dX4_hasPath_45 : decode cX4_hasPath 45 = .ok (.iload 8, 2) := by decide +kernel
theorem dX4_hasPath_47 : decode cX4_hasPath 47 = .ok (.invokevirtual 137, 3) := by decide +kernel
theorem dX4_hasPath_50 : decode cX4_hasPath 50 = .ok (.ifCond .eq 8, 3) := by decide +kernel
theorem dX4_hasPath_53 : decode cX4_hasPath 53 = .ok (.iload 6, 2) := by decide +kernel
theorem dX4_hasPath_55 : decode cX4_hasPath 55 = .ok (.goto 5, 3) := by decide +kernel
theorem dX4_hasPath_58 : decode cX4_hasPath 58 = .ok (.iload 8, 2) := by decide +kernel
theorem dX4_hasPath_60 : decode cX4_hasPath 60 = .ok (.istore 6, 2) := by decide +kernel
theorem dX4_hasPath_62 : decode cX4_hasPath 62 = .ok (.iinc 7 (-1), 3) := by decide +kernel
theorem dX4_hasPath_65 : decode cX4_hasPath 65 = .ok (.goto (-41), 3) := by decide +kernel
theorem dX4_hasPath_68 : decode cX4_hasPath 68 = .ok (.iload 6, 2) := by decide +kernel
theorem dX4_hasPath_70 : decode cX4_hasPath 70 = .ok (.ifCond .ge 5, 3) := by decide +kernel
theorem dX4_hasPath_73 : decode cX4_hasPath 73 = .ok (.iconst 0, 1) := by decide +kernel
theorem dX4_hasPath_74 : decode cX4_hasPath 74 = .ok (.ireturn, 1) := by decide +kernel
theorem dX4_hasPath_75 : decode cX4_hasPath 75 = .ok (.aload_n 0, 1) := by decide +kernel
theorem dX4_hasPath_76 : decode cX4_hasPath 76 = .ok (.getfield 71, 3) := by decide +kernel
theorem dX4_hasPath_79 : decode cX4_hasPath 79 = .ok (.aload_n 0, 1) := by decide +kernel
theorem dX4_hasPath_80 : decode cX4_hasPath 80 = .ok (.getfield 134, 3) := by decide +kernel
theorem dX4_hasPath_83 : decode cX4_hasPath 83 = .ok (.iload 6, 2) := by decide +kernel
theorem dX4_hasPath_85 : decode cX4_hasPath 85 = .ok (.iastore, 1) := by decide +kernel
theorem dX4_hasPath_86 : decode cX4_hasPath 86 = .ok (.aload_n 0, 1) := by decide +kernel
theorem dX4_hasPath_87 : decode cX4_hasPath 87 = .ok (.dup, 1) := by decide +kernel
theorem dX4_hasPath_88 : decode cX4_hasPath 88 = .ok (.getfield 134, 3) := by decide +kernel
theorem dX4_hasPath_91 : decode cX4_hasPath 91 = .ok (.iconst 1, 1) := by decide +kernel
theorem dX4_hasPath_92 : decode cX4_hasPath 92 = .ok (.iadd, 1) := by decide +kernel
theorem dX4_hasPath_93 : decode cX4_hasPath 93 = .ok (.putfield 134, 3) := by decide +kernel
theorem dX4_hasPath_96 : decode cX4_hasPath 96 = .ok (.aload_n 0, 1) := by decide +kernel
theorem dX4_hasPath_97 : decode cX4_hasPath 97 = .ok (.getfield 13, 3) := by decide +kernel
theorem dX4_hasPath_100 : decode cX4_hasPath 100 = .ok (.iload 6, 2) := by decide +kernel
theorem dX4_hasPath_102 : decode cX4_hasPath 102 = .ok (.iaload, 1) := by decide +kernel
theorem dX4_hasPath_103 : decode cX4_hasPath 103 = .ok (.iload_n 2, 1) := by decide +kernel
theorem dX4_hasPath_104 : decode cX4_hasPath 104 = .ok (.iconst 0, 1) := by decide +kernel
theorem dX4_hasPath_105 : decode cX4_hasPath 105 = .ok (.invokestatic 89, 3) := by decide +kernel
theorem dX4_hasPath_108 : decode cX4_hasPath 108 = .ok (.istore 7, 2) := by decide +kernel
theorem dX4_hasPath_110 : decode cX4_hasPath 110 = .ok (.iload 7, 2) := by decide +kernel
theorem dX4_hasPath_112 : decode cX4_hasPath 112 = .ok (.iload 4, 2) := by decide +kernel
theorem dX4_hasPath_114 : decode cX4_hasPath 114 = .ok (.if_icmp .ne 18, 3) := by decide +kernel
theorem dX4_hasPath_117 : decode cX4_hasPath 117 = .ok (.aload_n 0, 1) := by decide +kernel
theorem dX4_hasPath_118 : decode cX4_hasPath 118 = .ok (.getfield 13, 3) := by decide +kernel
theorem dX4_hasPath_121 : decode cX4_hasPath 121 = .ok (.iload 6, 2) := by decide +kernel
theorem dX4_hasPath_123 : decode cX4_hasPath 123 = .ok (.iaload, 1) := by decide +kernel
theorem dX4_hasPath_124 : decode cX4_hasPath 124 = .ok (.iload_n 2, 1) := by decide +kernel
theorem dX4_hasPath_125 : decode cX4_hasPath 125 = .ok (.iconst 1, 1) := by decide +kernel
theorem dX4_hasPath_126 : decode cX4_hasPath 126 = .ok (.invokestatic 89, 3) := by decide +kernel
theorem dX4_hasPath_129 : decode cX4_hasPath 129 = .ok (.goto 5, 3) := by decide +kernel
theorem dX4_hasPath_132 : decode cX4_hasPath 132 = .ok (.iload 7, 2) := by decide +kernel
theorem dX4_hasPath_134 : decode cX4_hasPath 134 = .ok (.istore 4, 2) := by decide +kernel
theorem dX4_hasPath_136 : decode cX4_hasPath 136 = .ok (.aload_n 0, 1) := by decide +kernel
theorem dX4_hasPath_137 : decode cX4_hasPath 137 = .ok (.iload_n 1, 1) := by decide +kernel
theorem dX4_hasPath_138 : decode cX4_hasPath 138 = .ok (.iload 4, 2) := by decide +kernel
theorem dX4_hasPath_140 : decode cX4_hasPath 140 = .ok (.invokevirtual 141, 3) := by decide +kernel
theorem dX4_hasPath_143 : decode cX4_hasPath 143 = .ok (.istore 8, 2) := by decide +kernel
theorem dX4_hasPath_145 : decode cX4_hasPath 145 = .ok (.iload 8, 2) := by decide +kernel
theorem dX4_hasPath_147 : decode cX4_hasPath 147 = .ok (.ifCond .lt 26, 3) := by decide +kernel
theorem dX4_hasPath_150 : decode cX4_hasPath 150 = .ok (.aload_n 0, 1) := by decide +kernel
theorem dX4_hasPath_151 : decode cX4_hasPath 151 = .ok (.getfield 71, 3) := by decide +kernel
theorem dX4_hasPath_154 : decode cX4_hasPath 154 = .ok (.aload_n 0, 1) := by decide +kernel
theorem dX4_hasPath_155 : decode cX4_hasPath 155 = .ok (.getfield 134, 3) := by decide +kernel
theorem dX4_hasPath_158 : decode cX4_hasPath 158 = .ok (.iload 8, 2) := by decide +kernel
theorem dX4_hasPath_160 : decode cX4_hasPath 160 = .ok (.iastore, 1) := by decide +kernel
theorem dX4_hasPath_161 : decode cX4_hasPath 161 = .ok (.aload_n 0, 1) := by decide +kernel
theorem dX4_hasPath_162 : decode cX4_hasPath 162 = .ok (.dup, 1) := by decide +kernel
theorem dX4_hasPath_163 : decode cX4_hasPath 163 = .ok (.getfield 134, 3) := by decide +kernel
theorem dX4_hasPath_166 : decode cX4_hasPath 166 = .ok (.iconst 1, 1) := by decide +kernel
theorem dX4_hasPath_167 : decode cX4_hasPath 167 = .ok (.iadd, 1) := by decide +kernel
theorem dX4_hasPath_168 : decode cX4_hasPath 168 = .ok (.putfield 134, 3) := by decide +kernel
theorem dX4_hasPath_171 : decode cX4_hasPath 171 = .ok (.iconst 1, 1) := by decide +kernel
theorem dX4_hasPath_172 : decode cX4_hasPath 172 = .ok (.ireturn, 1) := by decide +kernel
theorem dX4_hasPath_173 : decode cX4_hasPath 173 = .ok (.iinc 5 1, 3) := by decide +kernel
theorem dX4_hasPath_176 : decode cX4_hasPath 176 = .ok (.goto (-165), 3) := by decide +kernel
theorem dX4_hasPath_179 : decode cX4_hasPath 179 = .ok (.iconst 0, 1) := by decide +kernel
theorem dX4_hasPath_180 : decode cX4_hasPath 180 = .ok (.ireturn, 1) := by decide +kernel
theorem dX4_goAlong_0 : decode cX4_goAlong 0 = .ok (.iconst 0, 1) := by decide +kernel
theorem dX4_goAlong_1 : decode cX4_goAlong 1 = .ok (.istore 4, 2) := by decide +kernel
theorem dX4_goAlong_3 : decode cX4_goAlong 3 = .ok (.iload 4, 2) := by decide +kernel
theorem dX4_goAlong_5 : decode cX4_goAlong 5 = .ok (.aload_n 0, 1) := by decide +kernel
theorem dX4_goAlong_6 : decode cX4_goAlong 6 = .ok (.getfield 134, 3) := by decide +kernel
theorem dX4_goAlong_9 : decode cX4_goAlong 9 = .ok (.if_icmp .ge 83, 3) := by decide +kernel
theorem dX4_goAlong_12 : decode cX4_goAlong 12 = .ok (.aload_n 0, 1) := by decide +kernel
theorem dX4_goAlong_13 : decode cX4_goAlong 13 = .ok (.getfield 23, 3) := by decide +kernel
theorem dX4_goAlong_16 : decode cX4_goAlong 16 = .ok (.iload 4, 2) := by decide +kernel
theorem dX4_goAlong_18 : decode cX4_goAlong 18 = .ok (.aload_n 0, 1) := by decide +kernel
theorem dX4_goAlong_19 : decode cX4_goAlong 19 = .ok (.getfield 71, 3) := by decide +kernel
theorem dX4_goAlong_22 : decode cX4_goAlong 22 = .ok (.iload 4, 2) := by decide +kernel
theorem dX4_goAlong_24 : decode cX4_goAlong 24 = .ok (.iaload, 1) := by decide +kernel
theorem dX4_goAlong_25 : decode cX4_goAlong 25 = .ok (.iastore, 1) := by decide +kernel
theorem dX4_goAlong_26 : decode cX4_goAlong 26 = .ok (.aload_n 0, 1) := by decide +kernel
theorem dX4_goAlong_27 : decode cX4_goAlong 27 = .ok (.getfield 26, 3) := by decide +kernel
theorem dX4_goAlong_30 : decode cX4_goAlong 30 = .ok (.iload 4, 2) := by decide +kernel
theorem dX4_goAlong_32 : decode cX4_goAlong 32 = .ok (.iload 4, 2) := by decide +kernel
theorem dX4_goAlong_34 : decode cX4_goAlong 34 = .ok (.ifCond .ne 7, 3) := by decide +kernel
theorem dX4_goAlong_37 : decode cX4_goAlong 37 = .ok (.iload_n 1, 1) := by decide +kernel
theorem dX4_goAlong_38 : decode cX4_goAlong 38 = .ok (.goto 17, 3) := by decide +kernel
theorem dX4_goAlong_41 : decode cX4_goAlong 41 = .ok (.aload_n 0, 1) := by decide +kernel
theorem dX4_goAlong_42 : decode cX4_goAlong 42 = .ok (.getfield 13, 3) := by decide +kernel
theorem dX4_goAlong_45 : decode cX4_goAlong 45 = .ok (.aload_n 0, 1) := by decide +kernel
theorem dX4_goAlong_46 : decode cX4_goAlong 46 = .ok (.getfield 71, 3) := by decide +kernel
theorem dX4_goAlong_49 : decode cX4_goAlong 49 = .ok (.iload 4, 2) := by decide +kernel
theorem dX4_goAlong_51 : decode cX4_goAlong 51 = .ok (.iconst 1, 1) := by decide +kernel
theorem dX4_goAlong_52 : decode cX4_goAlong 52 = .ok (.isub, 1) := by decide +kernel
theorem dX4_goAlong_53 : decode cX4_goAlong 53 = .ok (.iaload, 1) := by decide +kernel
theorem dX4_goAlong_54 : decode cX4_goAlong 54 = .ok (.iaload, 1) := by decide +kernel
theorem dX4_goAlong_55 : decode cX4_goAlong 55 = .ok (.iastore, 1) := by decide +kernel
theorem dX4_goAlong_56 : decode cX4_goAlong 56 = .ok (.aload_n 0, 1) := by decide +kernel
theorem dX4_goAlong_57 : decode cX4_goAlong 57 = .ok (.getfield 29, 3) := by decide +kernel
theorem dX4_goAlong_60 : decode cX4_goAlong 60 = .ok (.iload 4, 2) := by decide +kernel
theorem dX4_goAlong_62 : decode cX4_goAlong 62 = .ok (.iload 4, 2) := by decide +kernel
theorem dX4_goAlong_64 : decode cX4_goAlong 64 = .ok (.ifCond .ne 7, 3) := by decide +kernel
theorem dX4_goAlong_67 : decode cX4_goAlong 67 = .ok (.iload_n 2, 1) := by decide +kernel
theorem dX4_goAlong_68 : decode cX4_goAlong 68 = .ok (.goto 17, 3) := by decide +kernel
theorem dX4_goAlong_71 : decode cX4_goAlong 71 = .ok (.aload_n 0, 1) := by decide +kernel
theorem dX4_goAlong_72 : decode cX4_goAlong 72 = .ok (.getfield 17, 3) := by decide +kernel
theorem dX4_goAlong_75 : decode cX4_goAlong 75 = .ok (.aload_n 0, 1) := by decide +kernel
theorem dX4_goAlong_76 : decode cX4_goAlong 76 = .ok (.getfield 71, 3) := by decide +kernel
theorem dX4_goAlong_79 : decode cX4_goAlong 79 = .ok (.iload 4, 2) := by decide +kernel
theorem dX4_goAlong_81 : decode cX4_goAlong 81 = .ok (.iconst 1, 1) := by decide +kernel
theorem dX4_goAlong_82 : decode cX4_goAlong 82 = .ok (.isub, 1) := by decide +kernel
theorem dX4_goAlong_83 : decode cX4_goAlong 83 = .ok (.iaload, 1) := by decide +kernel
theorem dX4_goAlong_84 : decode cX4_goAlong 84 = .ok (.iaload, 1) := by decide +kernel
theorem dX4_goAlong_85 : decode cX4_goAlong 85 = .ok (.iastore, 1) := by decide +kernel
theorem dX4_goAlong_86 : decode cX4_goAlong 86 = .ok (.iinc 4 1, 3) := by decide +kernel
theorem dX4_goAlong_89 : decode cX4_goAlong 89 = .ok (.goto (-86), 3) := by decide +kernel
theorem dX4_goAlong_92 : decode cX4_goAlong 92 = .ok (.aload_n 0, 1) := by decide +kernel
theorem dX4_goAlong_93 : decode cX4_goAlong 93 = .ok (.aload_n 0, 1) := by decide +kernel
theorem dX4_goAlong_94 : decode cX4_goAlong 94 = .ok (.getfield 134, 3) := by decide +kernel
theorem dX4_goAlong_97 : decode cX4_goAlong 97 = .ok (.putfield 122, 3) := by decide +kernel
theorem dX4_goAlong_100 : decode cX4_goAlong 100 = .ok (.iload_n 3, 1) := by decide +kernel
theorem dX4_goAlong_101 : decode cX4_goAlong 101 = .ok (.ifCond .eq 15, 3) := by decide +kernel
theorem dX4_goAlong_104 : decode cX4_goAlong 104 = .ok (.aload_n 0, 1) := by decide +kernel
theorem dX4_goAlong_105 : decode cX4_goAlong 105 = .ok (.aload_n 0, 1) := by decide +kernel
theorem dX4_goAlong_106 : decode cX4_goAlong 106 = .ok (.getfield 134, 3) := by decide +kernel
theorem dX4_goAlong_109 : decode cX4_goAlong 109 = .ok (.putfield 145, 3) := by decide +kernel
theorem dX4_goAlong_112 : decode cX4_goAlong 112 = .ok (.aload_n 0, 1) := by decide +kernel
theorem dX4_goAlong_113 : decode cX4_goAlong 113 = .ok (.invokevirtual 148, 3) := by decide +kernel
theorem dX4_goAlong_116 : decode cX4_goAlong 116 = .ok (.aload_n 0, 1) := by decide +kernel
theorem dX4_goAlong_117 : decode cX4_goAlong 117 = .ok (.getfield 134, 3) := by decide +kernel
theorem dX4_goAlong_120 : decode cX4_goAlong 120 = .ok (.iconst 1, 1) := by decide +kernel
theorem dX4_goAlong_121 : decode cX4_goAlong 121 = .ok (.isub, 1) := by decide +kernel
theorem dX4_goAlong_122 : decode cX4_goAlong 122 = .ok (.istore 4, 2) := by decide +kernel
theorem dX4_goAlong_124 : decode cX4_goAlong 124 = .ok (.iload 4, 2) := by decide +kernel
theorem dX4_goAlong_126 : decode cX4_goAlong 126 = .ok (.ifCond .lt 35, 3) := by decide +kernel
theorem dX4_goAlong_129 : decode cX4_goAlong 129 = .ok (.aload_n 0, 1) := by decide +kernel
theorem dX4_goAlong_130 : decode cX4_goAlong 130 = .ok (.aload_n 0, 1) := by decide +kernel
theorem dX4_goAlong_131 : decode cX4_goAlong 131 = .ok (.getfield 23, 3) := by decide +kernel
theorem dX4_goAlong_134 : decode cX4_goAlong 134 = .ok (.iload 4, 2) := by decide +kernel
theorem dX4_goAlong_136 : decode cX4_goAlong 136 = .ok (.iaload, 1) := by decide +kernel
theorem dX4_goAlong_137 : decode cX4_goAlong 137 = .ok (.aload_n 0, 1) := by decide +kernel
theorem dX4_goAlong_138 : decode cX4_goAlong 138 = .ok (.getfield 26, 3) := by decide +kernel
theorem dX4_goAlong_141 : decode cX4_goAlong 141 = .ok (.iload 4, 2) := by decide +kernel
theorem dX4_goAlong_143 : decode cX4_goAlong 143 = .ok (.iaload, 1) := by decide +kernel
theorem dX4_goAlong_144 : decode cX4_goAlong 144 = .ok (.aload_n 0, 1) := by decide +kernel
theorem dX4_goAlong_145 : decode cX4_goAlong 145 = .ok (.getfield 29, 3) := by decide +kernel
theorem dX4_goAlong_148 : decode cX4_goAlong 148 = .ok (.iload 4, 2) := by decide +kernel
theorem dX4_goAlong_150 : decode cX4_goAlong 150 = .ok (.iaload, 1) := by decide +kernel
theorem dX4_goAlong_151 : decode cX4_goAlong 151 = .ok (.iload_n 3, 1) := by decide +kernel
theorem dX4_goAlong_152 : decode cX4_goAlong 152 = .ok (.invokevirtual 151, 3) := by decide +kernel
theorem dX4_goAlong_155 : decode cX4_goAlong 155 = .ok (.iinc 4 (-1), 3) := by decide +kernel
theorem dX4_goAlong_158 : decode cX4_goAlong 158 = .ok (.goto (-34), 3) := by decide +kernel
theorem dX4_goAlong_161 : decode cX4_goAlong 161 = .ok (.aload_n 0, 1) := by decide +kernel
theorem dX4_goAlong_162 : decode cX4_goAlong 162 = .ok (.iconst 0, 1) := by decide +kernel
theorem dX4_goAlong_163 : decode cX4_goAlong 163 = .ok (.putfield 122, 3) := by decide +kernel
theorem dX4_goAlong_166 : decode cX4_goAlong 166 = .ok (.iload_n 3, 1) := by decide +kernel
theorem dX4_goAlong_167 : decode cX4_goAlong 167 = .ok (.ifCond .eq 7, 3) := by decide +kernel
theorem dX4_goAlong_170 : decode cX4_goAlong 170 = .ok (.aload_n 0, 1) := by decide +kernel
theorem dX4_goAlong_171 : decode cX4_goAlong 171 = .ok (.invokevirtual 148, 3) := by decide +kernel
theorem dX4_goAlong_174 : decode cX4_goAlong 174 = .ok (.return_, 1) := by decide +kernel
theorem dX4_putInto_0 : decode cX4_putInto 0 = .ok (.iload_n 3, 1) := by decide +kernel
theorem dX4_putInto_1 : decode cX4_putInto 1 = .ok (.iload_n 2, 1) := by decide +kernel
theorem dX4_putInto_2 : decode cX4_putInto 2 = .ok (.iconst 0, 1) := by decide +kernel
theorem dX4_putInto_3 : decode cX4_putInto 3 = .ok (.invokestatic 89, 3) := by decide +kernel
theorem dX4_putInto_6 : decode cX4_putInto 6 = .ok (.istore 6, 2) := by decide +kernel
theorem dX4_putInto_8 : decode cX4_putInto 8 = .ok (.iload_n 3, 1) := by decide +kernel
theorem dX4_putInto_9 : decode cX4_putInto 9 = .ok (.iload_n 2, 1) := by decide +kernel
theorem dX4_putInto_10 : decode cX4_putInto 10 = .ok (.iconst 1, 1) := by decide +kernel
theorem dX4_putInto_11 : decode cX4_putInto 11 = .ok (.invokestatic 89, 3) := by decide +kernel
theorem dX4_putInto_14 : decode cX4_putInto 14 = .ok (.istore 7, 2) := by decide +kernel
theorem dX4_putInto_16 : decode cX4_putInto 16 = .ok (.aload_n 0, 1) := by decide +kernel
theorem dX4_putInto_17 : decode cX4_putInto 17 = .ok (.iload_n 1, 1) := by decide +kernel
theorem dX4_putInto_18 : decode cX4_putInto 18 = .ok (.iload 6, 2) := by decide +kernel
theorem dX4_putInto_20 : decode cX4_putInto 20 = .ok (.invokevirtual 141, 3) := by decide +kernel
theorem dX4_putInto_23 : decode cX4_putInto 23 = .ok (.istore 8, 2) := by decide +kernel
theorem dX4_putInto_25 : decode cX4_putInto 25 = .ok (.iload 8, 2) := by decide +kernel
theorem dX4_putInto_27 : decode cX4_putInto 27 = .ok (.ifCond .ge 13, 3) := by decide +kernel
theorem dX4_putInto_30 : decode cX4_putInto 30 = .ok (.aload_n 0, 1) := by decide +kernel
theorem dX4_putInto_31 : decode cX4_putInto 31 = .ok (.iload_n 1, 1) := by decide +kernel
theorem dX4_putInto_32 : decode cX4_putInto 32 = .ok (.iload 7, 2) := by decide +kernel
theorem dX4_putInto_34 : decode cX4_putInto 34 = .ok (.invokevirtual 141, 3) := by decide +kernel
theorem dX4_putInto_37 : decode cX4_putInto 37 = .ok (.goto 5, 3) := by decide +kernel
theorem dX4_putInto_40 : decode cX4_putInto 40 = .ok (.iload 8, 2) := by decide +kernel
theorem dX4_putInto_42 : decode cX4_putInto 42 = .ok (.istore 8, 2) := by decide +kernel
theorem dX4_putInto_44 : decode cX4_putInto 44 = .ok (.iload 8, 2) := by decide +kernel
theorem dX4_putInto_46 : decode cX4_putInto 46 = .ok (.ifCond .lt 16, 3) := by decide +kernel
theorem dX4_putInto_49 : decode cX4_putInto 49 = .ok (.aload_n 0, 1) := by decide +kernel
theorem dX4_putInto_50 : decode cX4_putInto 50 = .ok (.iload 8, 2) := by decide +kernel
theorem dX4_putInto_52 : decode cX4_putInto 52 = .ok (.iload_n 3, 1) := by decide +kernel
theorem dX4_putInto_53 : decode cX4_putInto 53 = .ok (.iload 4, 2) := by decide +kernel
theorem dX4_putInto_55 : decode cX4_putInto 55 = .ok (.iload 5, 2) := by decide +kernel
theorem dX4_putInto_57 : decode cX4_putInto 57 = .ok (.invokevirtual 151, 3) := by decide +kernel
theorem dX4_putInto_60 : decode cX4_putInto 60 = .ok (.iconst 1, 1) := by decide +kernel
theorem dX4_putInto_61 : decode cX4_putInto 61 = .ok (.ireturn, 1) := by decide +kernel
theorem dX4_putInto_62 : decode cX4_putInto 62 = .ok (.aload_n 0, 1) := by decide +kernel
theorem dX4_putInto_63 : decode cX4_putInto 63 = .ok (.iload_n 1, 1) := by decide +kernel
theorem dX4_putInto_64 : decode cX4_putInto 64 = .ok (.iload_n 2, 1) := by decide +kernel
theorem dX4_putInto_65 : decode cX4_putInto 65 = .ok (.iload 6, 2) := by decide +kernel
theorem dX4_putInto_67 : decode cX4_putInto 67 = .ok (.invokevirtual 155, 3) := by decide +kernel
theorem dX4_putInto_70 : decode cX4_putInto 70 = .ok (.ifCond .ne 14, 3) := by decide +kernel
theorem dX4_putInto_73 : decode cX4_putInto 73 = .ok (.aload_n 0, 1) := by decide +kernel
theorem dX4_putInto_74 : decode cX4_putInto 74 = .ok (.iload_n 1, 1) := by decide +kernel
theorem dX4_putInto_75 : decode cX4_putInto 75 = .ok (.iload_n 2, 1) := by decide +kernel
theorem dX4_putInto_76 : decode cX4_putInto 76 = .ok (.iload 7, 2) := by decide +kernel
theorem dX4_putInto_78 : decode cX4_putInto 78 = .ok (.invokevirtual 155, 3) := by decide +kernel
theorem dX4_putInto_81 : decode cX4_putInto 81 = .ok (.ifCond .eq 14, 3) := by decide +kernel
theorem dX4_putInto_84 : decode cX4_putInto 84 = .ok (.aload_n 0, 1) := by decide +kernel
theorem dX4_putInto_85 : decode cX4_putInto 85 = .ok (.iload_n 3, 1) := by decide +kernel
theorem dX4_putInto_86 : decode cX4_putInto 86 = .ok (.iload 4, 2) := by decide +kernel
theorem dX4_putInto_88 : decode cX4_putInto 88 = .ok (.iload 5, 2) := by decide +kernel
theorem dX4_putInto_90 : decode cX4_putInto 90 = .ok (.invokevirtual 159, 3) := by decide +kernel
theorem dX4_putInto_93 : decode cX4_putInto 93 = .ok (.iconst 2, 1) := by decide +kernel
theorem dX4_putInto_94 : decode cX4_putInto 94 = .ok (.ireturn, 1) := by decide +kernel
theorem dX4_putInto_95 : decode cX4_putInto 95 = .ok (.aload_n 0, 1) := by decide +kernel
theorem dX4_putInto_96 : decode cX4_putInto 96 = .ok (.iload_n 1, 1) := by decide +kernel
theorem dX4_putInto_97 : decode cX4_putInto 97 = .ok (.bipush 8, 2) := by decide +kernel
theorem dX4_putInto_99 : decode cX4_putInto 99 = .ok (.invokevirtual 141, 3) := by decide +kernel
theorem dX4_putInto_102 : decode cX4_putInto 102 = .ok (.istore 8, 2) := by decide +kernel
theorem dX4_putInto_104 : decode cX4_putInto 104 = .ok (.iload 8, 2) := by decide +kernel
theorem dX4_putInto_106 : decode cX4_putInto 106 = .ok (.ifCond .ge 6, 3) := by decide +kernel
theorem dX4_putInto_109 : decode cX4_putInto 109 = .ok (.bipush (-2), 2) := by decide +kernel
theorem dX4_putInto_111 : decode cX4_putInto 111 = .ok (.ireturn, 1) := by decide +kernel
theorem dX4_putInto_112 : decode cX4_putInto 112 = .ok (.aload_n 0, 1) := by decide +kernel
theorem dX4_putInto_113 : decode cX4_putInto 113 = .ok (.iload 8, 2) := by decide +kernel
theorem dX4_putInto_115 : decode cX4_putInto 115 = .ok (.iload_n 3, 1) := by decide +kernel
theorem dX4_putInto_116 : decode cX4_putInto 116 = .ok (.iload 4, 2) := by decide +kernel
theorem dX4_putInto_118 : decode cX4_putInto 118 = .ok (.iload 5, 2) := by decide +kernel
theorem dX4_putInto_120 : decode cX4_putInto 120 = .ok (.invokevirtual 151, 3) := by decide +kernel
theorem dX4_putInto_123 : decode cX4_putInto 123 = .ok (.iconst 3, 1) := by decide +kernel
theorem dX4_putInto_124 : decode cX4_putInto 124 = .ok (.ireturn, 1) := by decide +kernel
theorem dX4_fitsBy_0 : decode cX4_fitsBy 0 = .ok (.bipush 72, 2) := by decide +kernel
theorem dX4_fitsBy_2 : decode cX4_fitsBy 2 = .ok (.istore 4, 2) := by decide +kernel
theorem dX4_fitsBy_4 : decode cX4_fitsBy 4 = .ok (.iload 4, 2) := by decide +kernel
theorem dX4_fitsBy_6 : decode cX4_fitsBy 6 = .ok (.bipush 108, 2) := by decide +kernel
theorem dX4_fitsBy_8 : decode cX4_fitsBy 8 = .ok (.if_icmp .ge 17, 3) := by decide +kernel
theorem dX4_fitsBy_11 : decode cX4_fitsBy 11 = .ok (.aload_n 0, 1) := by decide +kernel
theorem dX4_fitsBy_12 : decode cX4_fitsBy 12 = .ok (.getfield 7, 3) := by decide +kernel
theorem dX4_fitsBy_15 : decode cX4_fitsBy 15 = .ok (.iload 4, 2) := by decide +kernel
theorem dX4_fitsBy_17 : decode cX4_fitsBy 17 = .ok (.iconst 0, 1) := by decide +kernel
theorem dX4_fitsBy_18 : decode cX4_fitsBy 18 = .ok (.bastore, 1) := by decide +kernel
theorem dX4_fitsBy_19 : decode cX4_fitsBy 19 = .ok (.iinc 4 1, 3) := by decide +kernel
theorem dX4_fitsBy_22 : decode cX4_fitsBy 22 = .ok (.goto (-18), 3) := by decide +kernel
theorem dX4_fitsBy_25 : decode cX4_fitsBy 25 = .ok (.iconst 0, 1) := by decide +kernel
theorem dX4_fitsBy_26 : decode cX4_fitsBy 26 = .ok (.istore 4, 2) := by decide +kernel
theorem dX4_fitsBy_28 : decode cX4_fitsBy 28 = .ok (.iload 4, 2) := by decide +kernel
theorem dX4_fitsBy_30 : decode cX4_fitsBy 30 = .ok (.bipush 36, 2) := by decide +kernel
theorem dX4_fitsBy_32 : decode cX4_fitsBy 32 = .ok (.if_icmp .ge 57, 3) := by decide +kernel
theorem dX4_fitsBy_35 : decode cX4_fitsBy 35 = .ok (.bipush 36, 2) := by decide +kernel
theorem dX4_fitsBy_37 : decode cX4_fitsBy 37 = .ok (.aload_n 0, 1) := by decide +kernel
theorem dX4_fitsBy_38 : decode cX4_fitsBy 38 = .ok (.getfield 125, 3) := by decide +kernel
theorem dX4_fitsBy_41 : decode cX4_fitsBy 41 = .ok (.imul, 1) := by decide +kernel
theorem dX4_fitsBy_42 : decode cX4_fitsBy 42 = .ok (.iload 4, 2) := by decide +kernel
theorem dX4_fitsBy_44 : decode cX4_fitsBy 44 = .ok (.iadd, 1) := by decide +kernel
theorem dX4_fitsBy_45 : decode cX4_fitsBy 45 = .ok (.istore 5, 2) := by decide +kernel
theorem dX4_fitsBy_47 : decode cX4_fitsBy 47 = .ok (.aload_n 0, 1) := by decide +kernel
theorem dX4_fitsBy_48 : decode cX4_fitsBy 48 = .ok (.getfield 7, 3) := by decide +kernel
theorem dX4_fitsBy_51 : decode cX4_fitsBy 51 = .ok (.iload 5, 2) := by decide +kernel
theorem dX4_fitsBy_53 : decode cX4_fitsBy 53 = .ok (.baload, 1) := by decide +kernel
theorem dX4_fitsBy_54 : decode cX4_fitsBy 54 = .ok (.ifCond .eq 29, 3) := by decide +kernel
theorem dX4_fitsBy_57 : decode cX4_fitsBy 57 = .ok (.aload_n 0, 1) := by decide +kernel
theorem dX4_fitsBy_58 : decode cX4_fitsBy 58 = .ok (.iconst 2, 1) := by decide +kernel
theorem dX4_fitsBy_59 : decode cX4_fitsBy 59 = .ok (.iload_n 1, 1) := by decide +kernel
theorem dX4_fitsBy_60 : decode cX4_fitsBy 60 = .ok (.aload_n 0, 1) := by decide +kernel
theorem dX4_fitsBy_61 : decode cX4_fitsBy 61 = .ok (.getfield 13, 3) := by decide +kernel
theorem dX4_fitsBy_64 : decode cX4_fitsBy 64 = .ok (.iload 5, 2) := by decide +kernel
theorem dX4_fitsBy_66 : decode cX4_fitsBy 66 = .ok (.iaload, 1) := by decide +kernel
theorem dX4_fitsBy_67 : decode cX4_fitsBy 67 = .ok (.aload_n 0, 1) := by decide +kernel
theorem dX4_fitsBy_68 : decode cX4_fitsBy 68 = .ok (.getfield 17, 3) := by decide +kernel
theorem dX4_fitsBy_71 : decode cX4_fitsBy 71 = .ok (.iload 5, 2) := by decide +kernel
theorem dX4_fitsBy_73 : decode cX4_fitsBy 73 = .ok (.iaload, 1) := by decide +kernel
theorem dX4_fitsBy_74 : decode cX4_fitsBy 74 = .ok (.iconst 0, 1) := by decide +kernel
theorem dX4_fitsBy_75 : decode cX4_fitsBy 75 = .ok (.invokevirtual 163, 3) := by decide +kernel
theorem dX4_fitsBy_78 : decode cX4_fitsBy 78 = .ok (.ifCond .ge 5, 3) := by decide +kernel
theorem dX4_fitsBy_81 : decode cX4_fitsBy 81 = .ok (.iconst 0, 1) := by decide +kernel
theorem dX4_fitsBy_82 : decode cX4_fitsBy 82 = .ok (.ireturn, 1) := by decide +kernel
theorem dX4_fitsBy_83 : decode cX4_fitsBy 83 = .ok (.iinc 4 1, 3) := by decide +kernel
theorem dX4_fitsBy_86 : decode cX4_fitsBy 86 = .ok (.goto (-58), 3) := by decide +kernel
theorem dX4_fitsBy_89 : decode cX4_fitsBy 89 = .ok (.aload_n 0, 1) := by decide +kernel
theorem dX4_fitsBy_90 : decode cX4_fitsBy 90 = .ok (.iconst 2, 1) := by decide +kernel
theorem dX4_fitsBy_91 : decode cX4_fitsBy 91 = .ok (.iload_n 1, 1) := by decide +kernel
theorem dX4_fitsBy_92 : decode cX4_fitsBy 92 = .ok (.iload_n 2, 1) := by decide +kernel
theorem dX4_fitsBy_93 : decode cX4_fitsBy 93 = .ok (.iload_n 3, 1) := by decide +kernel
theorem dX4_fitsBy_94 : decode cX4_fitsBy 94 = .ok (.iconst 0, 1) := by decide +kernel
theorem dX4_fitsBy_95 : decode cX4_fitsBy 95 = .ok (.invokevirtual 163, 3) := by decide +kernel
theorem dX4_fitsBy_98 : decode cX4_fitsBy 98 = .ok (.ifCond .le 7, 3) := by decide +kernel
theorem dX4_fitsBy_101 : decode cX4_fitsBy 101 = .ok (.iconst 1, 1) := by decide +kernel
theorem dX4_fitsBy_102 : decode cX4_fitsBy 102 = .ok (.goto 4, 3) := by decide +kernel
theorem dX4_fitsBy_105 : decode cX4_fitsBy 105 = .ok (.iconst 0, 1) := by decide +kernel
theorem dX4_fitsBy_106 : decode cX4_fitsBy 106 = .ok (.ireturn, 1) := by decide +kernel
theorem dX4_makeAnew_0 : decode cX4_makeAnew 0 = .ok (.iconst 1, 1) := by decide +kernel
theorem dX4_makeAnew_1 : decode cX4_makeAnew 1 = .ok (.istore_n 3, 1) := by decide +kernel
theorem dX4_makeAnew_2 : decode cX4_makeAnew 2 = .ok (.iload_n 3, 1) := by decide +kernel
theorem dX4_makeAnew_3 : decode cX4_makeAnew 3 = .ok (.iconst 4, 1) := by decide +kernel
theorem dX4_makeAnew_4 : decode cX4_makeAnew 4 = .ok (.if_icmp .ge 188, 3) := by decide +kernel
theorem dX4_makeAnew_7 : decode cX4_makeAnew 7 = .ok (.aload_n 0, 1) := by decide +kernel
theorem dX4_makeAnew_8 : decode cX4_makeAnew 8 = .ok (.getfield 128, 3) := by decide +kernel
theorem dX4_makeAnew_11 : decode cX4_makeAnew 11 = .ok (.iload_n 3, 1) := by decide +kernel
theorem dX4_makeAnew_12 : decode cX4_makeAnew 12 = .ok (.iadd, 1) := by decide +kernel
theorem dX4_makeAnew_13 : decode cX4_makeAnew 13 = .ok (.iconst 4, 1) := by decide +kernel
theorem dX4_makeAnew_14 : decode cX4_makeAnew 14 = .ok (.irem, 1) := by decide +kernel
theorem dX4_makeAnew_15 : decode cX4_makeAnew 15 = .ok (.istore 4, 2) := by decide +kernel
theorem dX4_makeAnew_17 : decode cX4_makeAnew 17 = .ok (.aload_n 0, 1) := by decide +kernel
theorem dX4_makeAnew_18 : decode cX4_makeAnew 18 = .ok (.aload_n 0, 1) := by decide +kernel
theorem dX4_makeAnew_19 : decode cX4_makeAnew 19 = .ok (.getfield 20, 3) := by decide +kernel
theorem dX4_makeAnew_22 : decode cX4_makeAnew 22 = .ok (.iload 4, 2) := by decide +kernel
theorem dX4_makeAnew_24 : decode cX4_makeAnew 24 = .ok (.iaload, 1) := by decide +kernel
theorem dX4_makeAnew_25 : decode cX4_makeAnew 25 = .ok (.iload_n 1, 1) := by decide +kernel
theorem dX4_makeAnew_26 : decode cX4_makeAnew 26 = .ok (.iload_n 2, 1) := by decide +kernel
theorem dX4_makeAnew_27 : decode cX4_makeAnew 27 = .ok (.invokevirtual 167, 3) := by decide +kernel
theorem dX4_makeAnew_30 : decode cX4_makeAnew 30 = .ok (.ifCond .eq 156, 3) := by decide +kernel
theorem dX4_makeAnew_33 : decode cX4_makeAnew 33 = .ok (.aload_n 0, 1) := by decide +kernel
theorem dX4_makeAnew_34 : decode cX4_makeAnew 34 = .ok (.iconst 1, 1) := by decide +kernel
theorem dX4_makeAnew_35 : decode cX4_makeAnew 35 = .ok (.aload_n 0, 1) := by decide +kernel
theorem dX4_makeAnew_36 : decode cX4_makeAnew 36 = .ok (.getfield 125, 3) := by decide +kernel
theorem dX4_makeAnew_39 : decode cX4_makeAnew 39 = .ok (.isub, 1) := by decide +kernel
theorem dX4_makeAnew_40 : decode cX4_makeAnew 40 = .ok (.putfield 125, 3) := by decide +kernel
theorem dX4_makeAnew_43 : decode cX4_makeAnew 43 = .ok (.aload_n 0, 1) := by decide +kernel
theorem dX4_makeAnew_44 : decode cX4_makeAnew 44 = .ok (.iload 4, 2) := by decide +kernel
theorem dX4_makeAnew_46 : decode cX4_makeAnew 46 = .ok (.putfield 128, 3) := by decide +kernel
theorem dX4_makeAnew_49 : decode cX4_makeAnew 49 = .ok (.iconst 0, 1) := by decide +kernel
theorem dX4_makeAnew_50 : decode cX4_makeAnew 50 = .ok (.istore 5, 2) := by decide +kernel
theorem dX4_makeAnew_52 : decode cX4_makeAnew 52 = .ok (.iload 5, 2) := by decide +kernel
theorem dX4_makeAnew_54 : decode cX4_makeAnew 54 = .ok (.bipush 36, 2) := by decide +kernel
theorem dX4_makeAnew_56 : decode cX4_makeAnew 56 = .ok (.if_icmp .ge 84, 3) := by decide +kernel
theorem dX4_makeAnew_59 : decode cX4_makeAnew 59 = .ok (.aload_n 0, 1) := by decide +kernel
theorem dX4_makeAnew_60 : decode cX4_makeAnew 60 = .ok (.getfield 7, 3) := by decide +kernel
theorem dX4_makeAnew_63 : decode cX4_makeAnew 63 = .ok (.bipush 36, 2) := by decide +kernel
theorem dX4_makeAnew_65 : decode cX4_makeAnew 65 = .ok (.aload_n 0, 1) := by decide +kernel
theorem dX4_makeAnew_66 : decode cX4_makeAnew 66 = .ok (.getfield 125, 3) := by decide +kernel
theorem dX4_makeAnew_69 : decode cX4_makeAnew 69 = .ok (.imul, 1) := by decide +kernel
theorem dX4_makeAnew_70 : decode cX4_makeAnew 70 = .ok (.iload 5, 2) := by decide +kernel
theorem dX4_makeAnew_72 : decode cX4_makeAnew 72 = .ok (.iadd, 1) := by decide +kernel
theorem dX4_makeAnew_73 : decode cX4_makeAnew 73 = .ok (.aload_n 0, 1) := by decide +kernel
theorem dX4_makeAnew_74 : decode cX4_makeAnew 74 = .ok (.getfield 7, 3) := by decide +kernel
theorem dX4_makeAnew_77 : decode cX4_makeAnew 77 = .ok (.bipush 72, 2) := by decide +kernel
theorem dX4_makeAnew_79 : decode cX4_makeAnew 79 = .ok (.iload 5, 2) := by decide +kernel
theorem dX4_makeAnew_81 : decode cX4_makeAnew 81 = .ok (.iadd, 1) := by decide +kernel
theorem dX4_makeAnew_82 : decode cX4_makeAnew 82 = .ok (.baload, 1) := by decide +kernel
theorem dX4_makeAnew_83 : decode cX4_makeAnew 83 = .ok (.bastore, 1) := by decide +kernel
theorem dX4_makeAnew_84 : decode cX4_makeAnew 84 = .ok (.aload_n 0, 1) := by decide +kernel
theorem dX4_makeAnew_85 : decode cX4_makeAnew 85 = .ok (.getfield 13, 3) := by decide +kernel
theorem dX4_makeAnew_88 : decode cX4_makeAnew 88 = .ok (.bipush 36, 2) := by decide +kernel
theorem dX4_makeAnew_90 : decode cX4_makeAnew 90 = .ok (.aload_n 0, 1) := by decide +kernel
theorem dX4_makeAnew_91 : decode cX4_makeAnew 91 = .ok (.getfield 125, 3) := by decide +kernel
theorem dX4_makeAnew_94 : decode cX4_makeAnew 94 = .ok (.imul, 1) := by decide +kernel
theorem dX4_makeAnew_95 : decode cX4_makeAnew 95 = .ok (.iload 5, 2) := by decide +kernel
theorem dX4_makeAnew_97 : decode cX4_makeAnew 97 = .ok (.iadd, 1) := by decide +kernel
theorem dX4_makeAnew_98 : decode cX4_makeAnew 98 = .ok (.aload_n 0, 1) := by decide +kernel
theorem dX4_makeAnew_99 : decode cX4_makeAnew 99 = .ok (.getfield 13, 3) := by decide +kernel
theorem dX4_makeAnew_102 : decode cX4_makeAnew 102 = .ok (.bipush 72, 2) := by decide +kernel
theorem dX4_makeAnew_104 : decode cX4_makeAnew 104 = .ok (.iload 5, 2) := by decide +kernel
theorem dX4_makeAnew_106 : decode cX4_makeAnew 106 = .ok (.iadd, 1) := by decide +kernel
theorem dX4_makeAnew_107 : decode cX4_makeAnew 107 = .ok (.iaload, 1) := by decide +kernel
theorem dX4_makeAnew_108 : decode cX4_makeAnew 108 = .ok (.iastore, 1) := by decide +kernel
theorem dX4_makeAnew_109 : decode cX4_makeAnew 109 = .ok (.aload_n 0, 1) := by decide +kernel
theorem dX4_makeAnew_110 : decode cX4_makeAnew 110 = .ok (.getfield 17, 3) := by decide +kernel
theorem dX4_makeAnew_113 : decode cX4_makeAnew 113 = .ok (.bipush 36, 2) := by decide +kernel
theorem dX4_makeAnew_115 : decode cX4_makeAnew 115 = .ok (.aload_n 0, 1) := by decide +kernel
theorem dX4_makeAnew_116 : decode cX4_makeAnew 116 = .ok (.getfield 125, 3) := by decide +kernel
theorem dX4_makeAnew_119 : decode cX4_makeAnew 119 = .ok (.imul, 1) := by decide +kernel
theorem dX4_makeAnew_120 : decode cX4_makeAnew 120 = .ok (.iload 5, 2) := by decide +kernel
theorem dX4_makeAnew_122 : decode cX4_makeAnew 122 = .ok (.iadd, 1) := by decide +kernel
theorem dX4_makeAnew_123 : decode cX4_makeAnew 123 = .ok (.aload_n 0, 1) := by decide +kernel
theorem dX4_makeAnew_124 : decode cX4_makeAnew 124 = .ok (.getfield 17, 3) := by decide +kernel
theorem dX4_makeAnew_127 : decode cX4_makeAnew 127 = .ok (.bipush 72, 2) := by decide +kernel
theorem dX4_makeAnew_129 : decode cX4_makeAnew 129 = .ok (.iload 5, 2) := by decide +kernel
theorem dX4_makeAnew_131 : decode cX4_makeAnew 131 = .ok (.iadd, 1) := by decide +kernel
theorem dX4_makeAnew_132 : decode cX4_makeAnew 132 = .ok (.iaload, 1) := by decide +kernel
theorem dX4_makeAnew_133 : decode cX4_makeAnew 133 = .ok (.iastore, 1) := by decide +kernel
theorem dX4_makeAnew_134 : decode cX4_makeAnew 134 = .ok (.iinc 5 1, 3) := by decide +kernel
theorem dX4_makeAnew_137 : decode cX4_makeAnew 137 = .ok (.goto (-85), 3) := by decide +kernel
theorem dX4_makeAnew_140 : decode cX4_makeAnew 140 = .ok (.iconst 0, 1) := by decide +kernel
theorem dX4_makeAnew_141 : decode cX4_makeAnew 141 = .ok (.istore 5, 2) := by decide +kernel
theorem dX4_makeAnew_143 : decode cX4_makeAnew 143 = .ok (.iload 5, 2) := by decide +kernel
theorem dX4_makeAnew_145 : decode cX4_makeAnew 145 = .ok (.bipush 9, 2) := by decide +kernel
theorem dX4_makeAnew_147 : decode cX4_makeAnew 147 = .ok (.if_icmp .ge 23, 3) := by decide +kernel
theorem dX4_makeAnew_150 : decode cX4_makeAnew 150 = .ok (.aload_n 0, 1) := by decide +kernel
theorem dX4_makeAnew_151 : decode cX4_makeAnew 151 = .ok (.bipush 9, 2) := by decide +kernel
theorem dX4_makeAnew_153 : decode cX4_makeAnew 153 = .ok (.aload_n 0, 1) := by decide +kernel
theorem dX4_makeAnew_154 : decode cX4_makeAnew 154 = .ok (.getfield 125, 3) := by decide +kernel
theorem dX4_makeAnew_157 : decode cX4_makeAnew 157 = .ok (.imul, 1) := by decide +kernel
theorem dX4_makeAnew_158 : decode cX4_makeAnew 158 = .ok (.iload 5, 2) := by decide +kernel
theorem dX4_makeAnew_160 : decode cX4_makeAnew 160 = .ok (.iadd, 1) := by decide +kernel
theorem dX4_makeAnew_161 : decode cX4_makeAnew 161 = .ok (.invokevirtual 131, 3) := by decide +kernel
theorem dX4_makeAnew_164 : decode cX4_makeAnew 164 = .ok (.iinc 5 1, 3) := by decide +kernel
theorem dX4_makeAnew_167 : decode cX4_makeAnew 167 = .ok (.goto (-24), 3) := by decide +kernel
theorem dX4_makeAnew_170 : decode cX4_makeAnew 170 = .ok (.aload_n 0, 1) := by decide +kernel
theorem dX4_makeAnew_171 : decode cX4_makeAnew 171 = .ok (.invokevirtual 170, 3) := by decide +kernel
theorem dX4_makeAnew_174 : decode cX4_makeAnew 174 = .ok (.aload_n 0, 1) := by decide +kernel
theorem dX4_makeAnew_175 : decode cX4_makeAnew 175 = .ok (.dup, 1) := by decide +kernel
theorem dX4_makeAnew_176 : decode cX4_makeAnew 176 = .ok (.getfield 173, 3) := by decide +kernel
theorem dX4_makeAnew_179 : decode cX4_makeAnew 179 = .ok (.iconst 1, 1) := by decide +kernel
theorem dX4_makeAnew_180 : decode cX4_makeAnew 180 = .ok (.iadd, 1) := by decide +kernel
theorem dX4_makeAnew_181 : decode cX4_makeAnew 181 = .ok (.putfield 173, 3) := by decide +kernel
theorem dX4_makeAnew_184 : decode cX4_makeAnew 184 = .ok (.iconst 4, 1) := by decide +kernel
theorem dX4_makeAnew_185 : decode cX4_makeAnew 185 = .ok (.ireturn, 1) := by decide +kernel
theorem dX4_makeAnew_186 : decode cX4_makeAnew 186 = .ok (.iinc 3 1, 3) := by decide +kernel
theorem dX4_makeAnew_189 : decode cX4_makeAnew 189 = .ok (.goto (-187), 3) := by decide +kernel
theorem dX4_makeAnew_192 : decode cX4_makeAnew 192 = .ok (.bipush (-2), 2) := by decide +kernel
theorem dX4_makeAnew_194 : decode cX4_makeAnew 194 = .ok (.ireturn, 1) := by decide +kernel
theorem dX4_put_0 : decode cX4_put 0 = .ok (.aload_n 0, 1) := by decide +kernel
theorem dX4_put_1 : decode cX4_put 1 = .ok (.iconst 0, 1) := by decide +kernel
theorem dX4_put_2 : decode cX4_put 2 = .ok (.putfield 74, 3) := by decide +kernel
theorem dX4_put_5 : decode cX4_put 5 = .ok (.aload_n 0, 1) := by decide +kernel
theorem dX4_put_6 : decode cX4_put 6 = .ok (.aload_n 0, 1) := by decide +kernel
theorem dX4_put_7 : decode cX4_put 7 = .ok (.getfield 125, 3) := by decide +kernel
theorem dX4_put_10 : decode cX4_put 10 = .ok (.aload_n 0, 1) := by decide +kernel
theorem dX4_put_11 : decode cX4_put 11 = .ok (.getfield 20, 3) := by decide +kernel
theorem dX4_put_14 : decode cX4_put 14 = .ok (.aload_n 0, 1) := by decide +kernel
