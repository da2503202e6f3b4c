theorem dX10_init_0 : decode cX10_init 0 = .ok (.aload_n 0, 1) := by decide +kernel
theorem dX10_init_1 : decode cX10_init 1 = .ok (.invokespecial 1, 3) := by decide +kernel
theorem dX10_init_4 : decode cX10_init 4 = .ok (.aload_n 0, 1) := by decide +kernel
theorem dX10_init_5 : decode cX10_init 5 = .ok (.sipush 3100, 3) := by decide +kernel
theorem dX10_init_8 : decode cX10_init 8 = .ok (.newarray .int, 2) := by decide +kernel
theorem dX10_init_10 : decode cX10_init 10 = .ok (.putfield 7, 3) := by decide +kernel
theorem dX10_init_13 : decode cX10_init 13 = .ok (.aload_n 0, 1) := by decide +kernel
theorem dX10_init_14 : decode cX10_init 14 = .ok (.sipush 3100, 3) := by decide +kernel
theorem dX10_init_17 : decode cX10_init 17 = .ok (.newarray .int, 2) := by decide +kernel
theorem dX10_init_19 : decode cX10_init 19 = .ok (.putfield 13, 3) := by decide +kernel
theorem dX10_init_22 : decode cX10_init 22 = .ok (.aload_n 0, 1) := by decide +kernel
theorem dX10_init_23 : decode cX10_init 23 = .ok (.sipush 3100, 3) := by decide +kernel
theorem dX10_init_26 : decode cX10_init 26 = .ok (.newarray .int, 2) := by decide +kernel
theorem dX10_init_28 : decode cX10_init 28 = .ok (.putfield 16, 3) := by decide +kernel
theorem dX10_init_31 : decode cX10_init 31 = .ok (.aload_n 0, 1) := by decide +kernel
theorem dX10_init_32 : decode cX10_init 32 = .ok (.iconst 4, 1) := by decide +kernel
theorem dX10_init_33 : decode cX10_init 33 = .ok (.newarray .int, 2) := by decide +kernel
theorem dX10_init_35 : decode cX10_init 35 = .ok (.putfield 19, 3) := by decide +kernel
theorem dX10_init_38 : decode cX10_init 38 = .ok (.aload_n 0, 1) := by decide +kernel
theorem dX10_init_39 : decode cX10_init 39 = .ok (.iconst 4, 1) := by decide +kernel
theorem dX10_init_40 : decode cX10_init 40 = .ok (.newarray .int, 2) := by decide +kernel
theorem dX10_init_42 : decode cX10_init 42 = .ok (.putfield 22, 3) := by decide +kernel
theorem dX10_init_45 : decode cX10_init 45 = .ok (.aload_n 0, 1) := by decide +kernel
theorem dX10_init_46 : decode cX10_init 46 = .ok (.bipush 96, 2) := by decide +kernel
theorem dX10_init_48 : decode cX10_init 48 = .ok (.newarray .int, 2) := by decide +kernel
theorem dX10_init_50 : decode cX10_init 50 = .ok (.putfield 25, 3) := by decide +kernel
theorem dX10_init_53 : decode cX10_init 53 = .ok (.aload_n 0, 1) := by decide +kernel
theorem dX10_init_54 : decode cX10_init 54 = .ok (.iconst 5, 1) := by decide +kernel
theorem dX10_init_55 : decode cX10_init 55 = .ok (.newarray .int, 2) := by decide +kernel
theorem dX10_init_57 : decode cX10_init 57 = .ok (.putfield 28, 3) := by decide +kernel
theorem dX10_init_60 : decode cX10_init 60 = .ok (.aload_n 0, 1) := by decide +kernel
theorem dX10_init_61 : decode cX10_init 61 = .ok (.iconst 5, 1) := by decide +kernel
theorem dX10_init_62 : decode cX10_init 62 = .ok (.newarray .int, 2) := by decide +kernel
theorem dX10_init_64 : decode cX10_init 64 = .ok (.putfield 31, 3) := by decide +kernel
theorem dX10_init_67 : decode cX10_init 67 = .ok (.aload_n 0, 1) := by decide +kernel
theorem dX10_init_68 : decode cX10_init 68 = .ok (.iconst 5, 1) := by decide +kernel
theorem dX10_init_69 : decode cX10_init 69 = .ok (.newarray .int, 2) := by decide +kernel
theorem dX10_init_71 : decode cX10_init 71 = .ok (.putfield 34, 3) := by decide +kernel
theorem dX10_init_74 : decode cX10_init 74 = .ok (.aload_n 0, 1) := by decide +kernel
theorem dX10_init_75 : decode cX10_init 75 = .ok (.iconst 5, 1) := by decide +kernel
theorem dX10_init_76 : decode cX10_init 76 = .ok (.newarray .int, 2) := by decide +kernel
theorem dX10_init_78 : decode cX10_init 78 = .ok (.putfield 37, 3) := by decide +kernel
theorem dX10_init_81 : decode cX10_init 81 = .ok (.aload_n 0, 1) := by decide +kernel
theorem dX10_init_82 : decode cX10_init 82 = .ok (.bipush 120, 2) := by decide +kernel
theorem dX10_init_84 : decode cX10_init 84 = .ok (.newarray .int, 2) := by decide +kernel
theorem dX10_init_86 : decode cX10_init 86 = .ok (.putfield 40, 3) := by decide +kernel
theorem dX10_init_89 : decode cX10_init 89 = .ok (.aload_n 0, 1) := by decide +kernel
theorem dX10_init_90 : decode cX10_init 90 = .ok (.sipush 729, 3) := by decide +kernel
theorem dX10_init_93 : decode cX10_init 93 = .ok (.newarray .int, 2) := by decide +kernel
theorem dX10_init_95 : decode cX10_init 95 = .ok (.putfield 43, 3) := by decide +kernel
theorem dX10_init_98 : decode cX10_init 98 = .ok (.aload_n 0, 1) := by decide +kernel
theorem dX10_init_99 : decode cX10_init 99 = .ok (.bipush 27, 2) := by decide +kernel
theorem dX10_init_101 : decode cX10_init 101 = .ok (.newarray .int, 2) := by decide +kernel
theorem dX10_init_103 : decode cX10_init 103 = .ok (.putfield 46, 3) := by decide +kernel
theorem dX10_init_106 : decode cX10_init 106 = .ok (.aload_n 0, 1) := by decide +kernel
theorem dX10_init_107 : decode cX10_init 107 = .ok (.bipush 100, 2) := by decide +kernel
theorem dX10_init_109 : decode cX10_init 109 = .ok (.newarray .int, 2) := by decide +kernel
theorem dX10_init_111 : decode cX10_init 111 = .ok (.putfield 49, 3) := by decide +kernel
theorem dX10_init_114 : decode cX10_init 114 = .ok (.aload_n 0, 1) := by decide +kernel
theorem dX10_init_115 : decode cX10_init 115 = .ok (.bipush 96, 2) := by decide +kernel
theorem dX10_init_117 : decode cX10_init 117 = .ok (.newarray .int, 2) := by decide +kernel
theorem dX10_init_119 : decode cX10_init 119 = .ok (.putfield 52, 3) := by decide +kernel
theorem dX10_init_122 : decode cX10_init 122 = .ok (.aload_n 0, 1) := by decide +kernel
theorem dX10_init_123 : decode cX10_init 123 = .ok (.sipush 128, 3) := by decide +kernel
theorem dX10_init_126 : decode cX10_init 126 = .ok (.newarray .int, 2) := by decide +kernel
theorem dX10_init_128 : decode cX10_init 128 = .ok (.putfield 55, 3) := by decide +kernel
theorem dX10_init_131 : decode cX10_init 131 = .ok (.aload_n 0, 1) := by decide +kernel
theorem dX10_init_132 : decode cX10_init 132 = .ok (.bipush 100, 2) := by decide +kernel
theorem dX10_init_134 : decode cX10_init 134 = .ok (.newarray .int, 2) := by decide +kernel
theorem dX10_init_136 : decode cX10_init 136 = .ok (.putfield 58, 3) := by decide +kernel
theorem dX10_init_139 : decode cX10_init 139 = .ok (.aload_n 0, 1) := by decide +kernel
theorem dX10_init_140 : decode cX10_init 140 = .ok (.bipush 24, 2) := by decide +kernel
theorem dX10_init_142 : decode cX10_init 142 = .ok (.newarray .int, 2) := by decide +kernel
theorem dX10_init_144 : decode cX10_init 144 = .ok (.putfield 61, 3) := by decide +kernel
theorem dX10_init_147 : decode cX10_init 147 = .ok (.aload_n 0, 1) := by decide +kernel
theorem dX10_init_148 : decode cX10_init 148 = .ok (.bipush 60, 2) := by decide +kernel
theorem dX10_init_150 : decode cX10_init 150 = .ok (.newarray .int, 2) := by decide +kernel
theorem dX10_init_152 : decode cX10_init 152 = .ok (.putfield 64, 3) := by decide +kernel
theorem dX10_init_155 : decode cX10_init 155 = .ok (.aload_n 0, 1) := by decide +kernel
theorem dX10_init_156 : decode cX10_init 156 = .ok (.bipush 60, 2) := by decide +kernel
theorem dX10_init_158 : decode cX10_init 158 = .ok (.newarray .int, 2) := by decide +kernel
theorem dX10_init_160 : decode cX10_init 160 = .ok (.putfield 67, 3) := by decide +kernel
theorem dX10_init_163 : decode cX10_init 163 = .ok (.aload_n 0, 1) := by decide +kernel
theorem dX10_init_164 : decode cX10_init 164 = .ok (.getfield 7, 3) := by decide +kernel
theorem dX10_init_167 : decode cX10_init 167 = .ok (.bipush 9, 2) := by decide +kernel
theorem dX10_init_169 : decode cX10_init 169 = .ok (.iconst 1, 1) := by decide +kernel
theorem dX10_init_170 : decode cX10_init 170 = .ok (.iastore, 1) := by decide +kernel
theorem dX10_init_171 : decode cX10_init 171 = .ok (.aload_n 0, 1) := by decide +kernel
theorem dX10_init_172 : decode cX10_init 172 = .ok (.getfield 7, 3) := by decide +kernel
theorem dX10_init_175 : decode cX10_init 175 = .ok (.bipush 6, 2) := by decide +kernel
theorem dX10_init_177 : decode cX10_init 177 = .ok (.bipush 30, 2) := by decide +kernel
theorem dX10_init_179 : decode cX10_init 179 = .ok (.iastore, 1) := by decide +kernel
theorem dX10_init_180 : decode cX10_init 180 = .ok (.aload_n 0, 1) := by decide +kernel
theorem dX10_init_181 : decode cX10_init 181 = .ok (.getfield 7, 3) := by decide +kernel
theorem dX10_init_184 : decode cX10_init 184 = .ok (.bipush 7, 2) := by decide +kernel
theorem dX10_init_186 : decode cX10_init 186 = .ok (.bipush 10, 2) := by decide +kernel
theorem dX10_init_188 : decode cX10_init 188 = .ok (.iastore, 1) := by decide +kernel
theorem dX10_init_189 : decode cX10_init 189 = .ok (.iconst 0, 1) := by decide +kernel
theorem dX10_init_190 : decode cX10_init 190 = .ok (.istore_n 1, 1) := by decide +kernel
theorem dX10_init_191 : decode cX10_init 191 = .ok (.iload_n 1, 1) := by decide +kernel
theorem dX10_init_192 : decode cX10_init 192 = .ok (.iconst 4, 1) := by decide +kernel
theorem dX10_init_193 : decode cX10_init 193 = .ok (.if_icmp .ge 16, 3) := by decide +kernel
theorem dX10_init_196 : decode cX10_init 196 = .ok (.aload_n 0, 1) := by decide +kernel
theorem dX10_init_197 : decode cX10_init 197 = .ok (.getfield 19, 3) := by decide +kernel
theorem dX10_init_200 : decode cX10_init 200 = .ok (.iload_n 1, 1) := by decide +kernel
theorem dX10_init_201 : decode cX10_init 201 = .ok (.iconst (-1), 1) := by decide +kernel
theorem dX10_init_202 : decode cX10_init 202 = .ok (.iastore, 1) := by decide +kernel
theorem dX10_init_203 : decode cX10_init 203 = .ok (.iinc 1 1, 3) := by decide +kernel
theorem dX10_init_206 : decode cX10_init 206 = .ok (.goto (-15), 3) := by decide +kernel
theorem dX10_init_209 : decode cX10_init 209 = .ok (.return_, 1) := by decide +kernel
theorem dX10_isIn_0 : decode cX10_isIn 0 = .ok (.lload_n 0, 1) := by decide +kernel
theorem dX10_isIn_1 : decode cX10_isIn 1 = .ok (.lload_n 2, 1) := by decide +kernel
theorem dX10_isIn_2 : decode cX10_isIn 2 = .ok (.lcmp, 1) := by decide +kernel
theorem dX10_isIn_3 : decode cX10_isIn 3 = .ok (.ifCond .lt 14, 3) := by decide +kernel
theorem dX10_isIn_6 : decode cX10_isIn 6 = .ok (.lload_n 0, 1) := by decide +kernel
theorem dX10_isIn_7 : decode cX10_isIn 7 = .ok (.lload 4, 2) := by decide +kernel
theorem dX10_isIn_9 : decode cX10_isIn 9 = .ok (.lcmp, 1) := by decide +kernel
theorem dX10_isIn_10 : decode cX10_isIn 10 = .ok (.ifCond .gt 7, 3) := by decide +kernel
theorem dX10_isIn_13 : decode cX10_isIn 13 = .ok (.iconst 1, 1) := by decide +kernel
theorem dX10_isIn_14 : decode cX10_isIn 14 = .ok (.goto 4, 3) := by decide +kernel
theorem dX10_isIn_17 : decode cX10_isIn 17 = .ok (.iconst 0, 1) := by decide +kernel
theorem dX10_isIn_18 : decode cX10_isIn 18 = .ok (.ireturn, 1) := by decide +kernel
theorem dX10_orNone_0 : decode cX10_orNone 0 = .ok (.iload_n 0, 1) := by decide +kernel
theorem dX10_orNone_1 : decode cX10_orNone 1 = .ok (.ifCond .ge 8, 3) := by decide +kernel
theorem dX10_orNone_4 : decode cX10_orNone 4 = .ok (.ldc 70, 2) := by decide +kernel
theorem dX10_orNone_6 : decode cX10_orNone 6 = .ok (.goto 4, 3) := by decide +kernel
theorem dX10_orNone_9 : decode cX10_orNone 9 = .ok (.iload_n 0, 1) := by decide +kernel
theorem dX10_orNone_10 : decode cX10_orNone 10 = .ok (.ireturn, 1) := by decide +kernel
theorem dX10_within_0 : decode cX10_within 0 = .ok (.iload_n 0, 1) := by decide +kernel
theorem dX10_within_1 : decode cX10_within 1 = .ok (.ifCond .ge 7, 3) := by decide +kernel
theorem dX10_within_4 : decode cX10_within 4 = .ok (.iconst 0, 1) := by decide +kernel
theorem dX10_within_5 : decode cX10_within 5 = .ok (.goto 13, 3) := by decide +kernel
theorem dX10_within_8 : decode cX10_within 8 = .ok (.iload_n 0, 1) := by decide +kernel
theorem dX10_within_9 : decode cX10_within 9 = .ok (.iload_n 1, 1) := by decide +kernel
theorem dX10_within_10 : decode cX10_within 10 = .ok (.if_icmp .le 7, 3) := by decide +kernel
theorem dX10_within_13 : decode cX10_within 13 = .ok (.iload_n 1, 1) := by decide +kernel
theorem dX10_within_14 : decode cX10_within 14 = .ok (.goto 4, 3) := by decide +kernel
theorem dX10_within_17 : decode cX10_within 17 = .ok (.iload_n 0, 1) := by decide +kernel
theorem dX10_within_18 : decode cX10_within 18 = .ok (.ireturn, 1) := by decide +kernel
theorem dX10_changes_0 : decode cX10_changes 0 = .ok (.aload_n 0, 1) := by decide +kernel
theorem dX10_changes_1 : decode cX10_changes 1 = .ok (.getfield 7, 3) := by decide +kernel
theorem dX10_changes_4 : decode cX10_changes 4 = .ok (.iload_n 1, 1) := by decide +kernel
theorem dX10_changes_5 : decode cX10_changes 5 = .ok (.iaload, 1) := by decide +kernel
theorem dX10_changes_6 : decode cX10_changes 6 = .ok (.istore_n 3, 1) := by decide +kernel
theorem dX10_changes_7 : decode cX10_changes 7 = .ok (.aload_n 0, 1) := by decide +kernel
theorem dX10_changes_8 : decode cX10_changes 8 = .ok (.getfield 7, 3) := by decide +kernel
theorem dX10_changes_11 : decode cX10_changes 11 = .ok (.iload_n 1, 1) := by decide +kernel
theorem dX10_changes_12 : decode cX10_changes 12 = .ok (.iload_n 2, 1) := by decide +kernel
theorem dX10_changes_13 : decode cX10_changes 13 = .ok (.iastore, 1) := by decide +kernel
theorem dX10_changes_14 : decode cX10_changes 14 = .ok (.iload_n 3, 1) := by decide +kernel
theorem dX10_changes_15 : decode cX10_changes 15 = .ok (.ireturn, 1) := by decide +kernel
theorem dX10_textAt_0 : decode cX10_textAt 0 = .ok (.bipush 100, 2) := by decide +kernel
theorem dX10_textAt_2 : decode cX10_textAt 2 = .ok (.sipush 200, 3) := by decide +kernel
theorem dX10_textAt_5 : decode cX10_textAt 5 = .ok (.iload_n 1, 1) := by decide +kernel
theorem dX10_textAt_6 : decode cX10_textAt 6 = .ok (.imul, 1) := by decide +kernel
theorem dX10_textAt_7 : decode cX10_textAt 7 = .ok (.iadd, 1) := by decide +kernel
theorem dX10_textAt_8 : decode cX10_textAt 8 = .ok (.ireturn, 1) := by decide +kernel
theorem dX10_of_0 : decode cX10_of 0 = .ok (.aload_n 0, 1) := by decide +kernel
theorem dX10_of_1 : decode cX10_of 1 = .ok (.getfield 7, 3) := by decide +kernel
theorem dX10_of_4 : decode cX10_of 4 = .ok (.bipush 10, 2) := by decide +kernel
theorem dX10_of_6 : decode cX10_of 6 = .ok (.iconst 5, 1) := by decide +kernel
theorem dX10_of_7 : decode cX10_of 7 = .ok (.iload_n 1, 1) := by decide +kernel
theorem dX10_of_8 : decode cX10_of 8 = .ok (.imul, 1) := by decide +kernel
theorem dX10_of_9 : decode cX10_of 9 = .ok (.iadd, 1) := by decide +kernel
theorem dX10_of_10 : decode cX10_of 10 = .ok (.iload_n 2, 1) := by decide +kernel
theorem dX10_of_11 : decode cX10_of 11 = .ok (.iadd, 1) := by decide +kernel
theorem dX10_of_12 : decode cX10_of 12 = .ok (.iaload, 1) := by decide +kernel
theorem dX10_of_13 : decode cX10_of 13 = .ok (.ireturn, 1) := by decide +kernel
theorem dX10_gives_0 : decode cX10_gives 0 = .ok (.aload_n 0, 1) := by decide +kernel
theorem dX10_gives_1 : decode cX10_gives 1 = .ok (.getfield 7, 3) := by decide +kernel
theorem dX10_gives_4 : decode cX10_gives 4 = .ok (.bipush 10, 2) := by decide +kernel
theorem dX10_gives_6 : decode cX10_gives 6 = .ok (.iconst 5, 1) := by decide +kernel
theorem dX10_gives_7 : decode cX10_gives 7 = .ok (.iload_n 1, 1) := by decide +kernel
theorem dX10_gives_8 : decode cX10_gives 8 = .ok (.imul, 1) := by decide +kernel
theorem dX10_gives_9 : decode cX10_gives 9 = .ok (.iadd, 1) := by decide +kernel
theorem dX10_gives_10 : decode cX10_gives 10 = .ok (.iload_n 2, 1) := by decide +kernel
theorem dX10_gives_11 : decode cX10_gives 11 = .ok (.iadd, 1) := by decide +kernel
theorem dX10_gives_12 : decode cX10_gives 12 = .ok (.iload_n 3, 1) := by decide +kernel
theorem dX10_gives_13 : decode cX10_gives 13 = .ok (.iastore, 1) := by decide +kernel
theorem dX10_gives_14 : decode cX10_gives 14 = .ok (.return_, 1) := by decide +kernel
theorem dX10_isOne_0 : decode cX10_isOne 0 = .ok (.iload_n 1, 1) := by decide +kernel
theorem dX10_isOne_1 : decode cX10_isOne 1 = .ok (.i2l, 1) := by decide +kernel
theorem dX10_isOne_2 : decode cX10_isOne 2 = .ok (.lconst 0, 1) := by decide +kernel
theorem dX10_isOne_3 : decode cX10_isOne 3 = .ok (.aload_n 0, 1) := by decide +kernel
theorem dX10_isOne_4 : decode cX10_isOne 4 = .ok (.getfield 7, 3) := by decide +kernel
theorem dX10_isOne_7 : decode cX10_isOne 7 = .ok (.iconst 0, 1) := by decide +kernel
theorem dX10_isOne_8 : decode cX10_isOne 8 = .ok (.iaload, 1) := by decide +kernel
theorem dX10_isOne_9 : decode cX10_isOne 9 = .ok (.iconst 1, 1) := by decide +kernel
theorem dX10_isOne_10 : decode cX10_isOne 10 = .ok (.isub, 1) := by decide +kernel
theorem dX10_isOne_11 : decode cX10_isOne 11 = .ok (.i2l, 1) := by decide +kernel
theorem dX10_isOne_12 : decode cX10_isOne 12 = .ok (.invokestatic 71, 3) := by decide +kernel
theorem dX10_isOne_15 : decode cX10_isOne 15 = .ok (.ireturn, 1) := by decide +kernel
theorem dX10_isText_0 : decode cX10_isText 0 = .ok (.iload_n 1, 1) := by decide +kernel
theorem dX10_isText_1 : decode cX10_isText 1 = .ok (.i2l, 1) := by decide +kernel
theorem dX10_isText_2 : decode cX10_isText 2 = .ok (.lconst 0, 1) := by decide +kernel
theorem dX10_isText_3 : decode cX10_isText 3 = .ok (.aload_n 0, 1) := by decide +kernel
theorem dX10_isText_4 : decode cX10_isText 4 = .ok (.getfield 7, 3) := by decide +kernel
theorem dX10_isText_7 : decode cX10_isText 7 = .ok (.iconst 1, 1) := by decide +kernel
theorem dX10_isText_8 : decode cX10_isText 8 = .ok (.iaload, 1) := by decide +kernel
theorem dX10_isText_9 : decode cX10_isText 9 = .ok (.iconst 1, 1) := by decide +kernel
theorem dX10_isText_10 : decode cX10_isText 10 = .ok (.isub, 1) := by decide +kernel
theorem dX10_isText_11 : decode cX10_isText 11 = .ok (.i2l, 1) := by decide +kernel
theorem dX10_isText_12 : decode cX10_isText 12 = .ok (.invokestatic 71, 3) := by decide +kernel
theorem dX10_isText_15 : decode cX10_isText 15 = .ok (.ireturn, 1) := by decide +kernel
theorem dX10_drawn_0 : decode cX10_drawn 0 = .ok (.aload_n 0, 1) := by decide +kernel
theorem dX10_drawn_1 : decode cX10_drawn 1 = .ok (.getfield 7, 3) := by decide +kernel
theorem dX10_drawn_4 : decode cX10_drawn 4 = .ok (.bipush 9, 2) := by decide +kernel
theorem dX10_drawn_6 : decode cX10_drawn 6 = .ok (.aload_n 0, 1) := by decide +kernel
theorem dX10_drawn_7 : decode cX10_drawn 7 = .ok (.getfield 7, 3) := by decide +kernel
theorem dX10_drawn_10 : decode cX10_drawn 10 = .ok (.bipush 9, 2) := by decide +kernel
theorem dX10_drawn_12 : decode cX10_drawn 12 = .ok (.iaload, 1) := by decide +kernel
theorem dX10_drawn_13 : decode cX10_drawn 13 = .ok (.ldc 75, 2) := by decide +kernel
theorem dX10_drawn_15 : decode cX10_drawn 15 = .ok (.imul, 1) := by decide +kernel
theorem dX10_drawn_16 : decode cX10_drawn 16 = .ok (.sipush 12345, 3) := by decide +kernel
theorem dX10_drawn_19 : decode cX10_drawn 19 = .ok (.iadd, 1) := by decide +kernel
theorem dX10_drawn_20 : decode cX10_drawn 20 = .ok (.iastore, 1) := by decide +kernel
theorem dX10_drawn_21 : decode cX10_drawn 21 = .ok (.aload_n 0, 1) := by decide +kernel
theorem dX10_drawn_22 : decode cX10_drawn 22 = .ok (.getfield 7, 3) := by decide +kernel
theorem dX10_drawn_25 : decode cX10_drawn 25 = .ok (.bipush 9, 2) := by decide +kernel
theorem dX10_drawn_27 : decode cX10_drawn 27 = .ok (.iaload, 1) := by decide +kernel
theorem dX10_drawn_28 : decode cX10_drawn 28 = .ok (.bipush 8, 2) := by decide +kernel
theorem dX10_drawn_30 : decode cX10_drawn 30 = .ok (.iushr, 1) := by decide +kernel
theorem dX10_drawn_31 : decode cX10_drawn 31 = .ok (.ireturn, 1) := by decide +kernel
theorem dX10_isOf_0 : decode cX10_isOf 0 = .ok (.iload_n 0, 1) := by decide +kernel
theorem dX10_isOf_1 : decode cX10_isOf 1 = .ok (.iload_n 1, 1) := by decide +kernel
theorem dX10_isOf_2 : decode cX10_isOf 2 = .ok (.if_icmp .eq 27, 3) := by decide +kernel
theorem dX10_isOf_5 : decode cX10_isOf 5 = .ok (.iload_n 1, 1) := by decide +kernel
theorem dX10_isOf_6 : decode cX10_isOf 6 = .ok (.ifCond .eq 23, 3) := by decide +kernel
theorem dX10_isOf_9 : decode cX10_isOf 9 = .ok (.iload_n 1, 1) := by decide +kernel
theorem dX10_isOf_10 : decode cX10_isOf 10 = .ok (.iconst 1, 1) := by decide +kernel
theorem dX10_isOf_11 : decode cX10_isOf 11 = .ok (.if_icmp .ne 8, 3) := by decide +kernel
theorem dX10_isOf_14 : decode cX10_isOf 14 = .ok (.iload_n 0, 1) := by decide +kernel
theorem dX10_isOf_15 : decode cX10_isOf 15 = .ok (.iconst 3, 1) := by decide +kernel
theorem dX10_isOf_16 : decode cX10_isOf 16 = .ok (.if_icmp .eq 13, 3) := by decide +kernel
theorem dX10_isOf_19 : decode cX10_isOf 19 = .ok (.iload_n 1, 1) := by decide +kernel
theorem dX10_isOf_20 : decode cX10_isOf 20 = .ok (.iconst 2, 1) := by decide +kernel
theorem dX10_isOf_21 : decode cX10_isOf 21 = .ok (.if_icmp .ne 12, 3) := by decide +kernel
theorem dX10_isOf_24 : decode cX10_isOf 24 = .ok (.iload_n 0, 1) := by decide +kernel
theorem dX10_isOf_25 : decode cX10_isOf 25 = .ok (.iconst 4, 1) := by decide +kernel
theorem dX10_isOf_26 : decode cX10_isOf 26 = .ok (.if_icmp .ne 7, 3) := by decide +kernel
theorem dX10_isOf_29 : decode cX10_isOf 29 = .ok (.iconst 1, 1) := by decide +kernel
theorem dX10_isOf_30 : decode cX10_isOf 30 = .ok (.goto 4, 3) := by decide +kernel
theorem dX10_isOf_33 : decode cX10_isOf 33 = .ok (.iconst 0, 1) := by decide +kernel
theorem dX10_isOf_34 : decode cX10_isOf 34 = .ok (.ireturn, 1) := by decide +kernel
theorem dX10_lockOf_0 : decode cX10_lockOf 0 = .ok (.aload_n 0, 1) := by decide +kernel
theorem dX10_lockOf_1 : decode cX10_lockOf 1 = .ok (.getfield 7, 3) := by decide +kernel
theorem dX10_lockOf_4 : decode cX10_lockOf 4 = .ok (.bipush 50, 2) := by decide +kernel
theorem dX10_lockOf_6 : decode cX10_lockOf 6 = .ok (.iconst 5, 1) := by decide +kernel
theorem dX10_lockOf_7 : decode cX10_lockOf 7 = .ok (.iload_n 1, 1) := by decide +kernel
theorem dX10_lockOf_8 : decode cX10_lockOf 8 = .ok (.imul, 1) := by decide +kernel
theorem dX10_lockOf_9 : decode cX10_lockOf 9 = .ok (.iadd, 1) := by decide +kernel
theorem dX10_lockOf_10 : decode cX10_lockOf 10 = .ok (.iload_n 2, 1) := by decide +kernel
theorem dX10_lockOf_11 : decode cX10_lockOf 11 = .ok (.iadd, 1) := by decide +kernel
theorem dX10_lockOf_12 : decode cX10_lockOf 12 = .ok (.iaload, 1) := by decide +kernel
theorem dX10_lockOf_13 : decode cX10_lockOf 13 = .ok (.ireturn, 1) := by decide +kernel
theorem dX10_isLock_0 : decode cX10_isLock 0 = .ok (.iload_n 1, 1) := by decide +kernel
theorem dX10_isLock_1 : decode cX10_isLock 1 = .ok (.i2l, 1) := by decide +kernel
theorem dX10_isLock_2 : decode cX10_isLock 2 = .ok (.lconst 0, 1) := by decide +kernel
theorem dX10_isLock_3 : decode cX10_isLock 3 = .ok (.aload_n 0, 1) := by decide +kernel
theorem dX10_isLock_4 : decode cX10_isLock 4 = .ok (.getfield 7, 3) := by decide +kernel
theorem dX10_isLock_7 : decode cX10_isLock 7 = .ok (.bipush 8, 2) := by decide +kernel
theorem dX10_isLock_9 : decode cX10_isLock 9 = .ok (.iaload, 1) := by decide +kernel
theorem dX10_isLock_10 : decode cX10_isLock 10 = .ok (.iconst 1, 1) := by decide +kernel
theorem dX10_isLock_11 : decode cX10_isLock 11 = .ok (.isub, 1) := by decide +kernel
theorem dX10_isLock_12 : decode cX10_isLock 12 = .ok (.i2l, 1) := by decide +kernel
theorem dX10_isLock_13 : decode cX10_isLock 13 = .ok (.invokestatic 71, 3) := by decide +kernel
theorem dX10_isLock_16 : decode cX10_isLock 16 = .ok (.ireturn, 1) := by decide +kernel
theorem dX10_isRoom_0 : decode cX10_isRoom 0 = .ok (.iload_n 0, 1) := by decide +kernel
theorem dX10_isRoom_1 : decode cX10_isRoom 1 = .ok (.i2l, 1) := by decide +kernel
theorem dX10_isRoom_2 : decode cX10_isRoom 2 = .ok (.lconst 0, 1) := by decide +kernel
theorem dX10_isRoom_3 : decode cX10_isRoom 3 = .ok (.ldc2_w 76, 3) := by decide +kernel
theorem dX10_isRoom_6 : decode cX10_isRoom 6 = .ok (.invokestatic 71, 3) := by decide +kernel
theorem dX10_isRoom_9 : decode cX10_isRoom 9 = .ok (.ireturn, 1) := by decide +kernel
theorem dX10_isMost_0 : decode cX10_isMost 0 = .ok (.iload_n 0, 1) := by decide +kernel
theorem dX10_isMost_1 : decode cX10_isMost 1 = .ok (.i2l, 1) := by decide +kernel
theorem dX10_isMost_2 : decode cX10_isMost 2 = .ok (.lconst 0, 1) := by decide +kernel
theorem dX10_isMost_3 : decode cX10_isMost 3 = .ok (.ldc2_w 78, 3) := by decide +kernel
theorem dX10_isMost_6 : decode cX10_isMost 6 = .ok (.invokestatic 71, 3) := by decide +kernel
theorem dX10_isMost_9 : decode cX10_isMost 9 = .ok (.ireturn, 1) := by decide +kernel
theorem dX10_comes_0 : decode cX10_comes 0 = .ok (.aload_n 0, 1) := by decide +kernel
theorem dX10_comes_1 : decode cX10_comes 1 = .ok (.getfield 7, 3) := by decide +kernel
theorem dX10_comes_4 : decode cX10_comes 4 = .ok (.iconst 0, 1) := by decide +kernel
theorem dX10_comes_5 : decode cX10_comes 5 = .ok (.iaload, 1) := by decide +kernel
theorem dX10_comes_6 : decode cX10_comes 6 = .ok (.istore 6, 2) := by decide +kernel
theorem dX10_comes_8 : decode cX10_comes 8 = .ok (.aload_n 0, 1) := by decide +kernel
theorem dX10_comes_9 : decode cX10_comes 9 = .ok (.getfield 7, 3) := by decide +kernel
theorem dX10_comes_12 : decode cX10_comes 12 = .ok (.iconst 0, 1) := by decide +kernel
theorem dX10_comes_13 : decode cX10_comes 13 = .ok (.dup2, 1) := by decide +kernel
theorem dX10_comes_14 : decode cX10_comes 14 = .ok (.iaload, 1) := by decide +kernel
theorem dX10_comes_15 : decode cX10_comes 15 = .ok (.iconst 1, 1) := by decide +kernel
theorem dX10_comes_16 : decode cX10_comes 16 = .ok (.iadd, 1) := by decide +kernel
theorem dX10_comes_17 : decode cX10_comes 17 = .ok (.iastore, 1) := by decide +kernel
theorem dX10_comes_18 : decode cX10_comes 18 = .ok (.aload_n 0, 1) := by decide +kernel
theorem dX10_comes_19 : decode cX10_comes 19 = .ok (.iload 6, 2) := by decide +kernel
theorem dX10_comes_21 : decode cX10_comes 21 = .ok (.iconst 0, 1) := by decide +kernel
theorem dX10_comes_22 : decode cX10_comes 22 = .ok (.iload_n 1, 1) := by decide +kernel
theorem dX10_comes_23 : decode cX10_comes 23 = .ok (.invokevirtual 80, 3) := by decide +kernel
theorem dX10_comes_26 : decode cX10_comes 26 = .ok (.aload_n 0, 1) := by decide +kernel
theorem dX10_comes_27 : decode cX10_comes 27 = .ok (.iload 6, 2) := by decide +kernel
theorem dX10_comes_29 : decode cX10_comes 29 = .ok (.iconst 1, 1) := by decide +kernel
theorem dX10_comes_30 : decode cX10_comes 30 = .ok (.iload_n 2, 1) := by decide +kernel
theorem dX10_comes_31 : decode cX10_comes 31 = .ok (.invokevirtual 80, 3) := by decide +kernel
theorem dX10_comes_34 : decode cX10_comes 34 = .ok (.aload_n 0, 1) := by decide +kernel
theorem dX10_comes_35 : decode cX10_comes 35 = .ok (.iload 6, 2) := by decide +kernel
theorem dX10_comes_37 : decode cX10_comes 37 = .ok (.iconst 2, 1) := by decide +kernel
theorem dX10_comes_38 : decode cX10_comes 38 = .ok (.iload_n 3, 1) := by decide +kernel
theorem dX10_comes_39 : decode cX10_comes 39 = .ok (.invokevirtual 80, 3) := by decide +kernel
theorem dX10_comes_42 : decode cX10_comes 42 = .ok (.aload_n 0, 1) := by decide +kernel
theorem dX10_comes_43 : decode cX10_comes 43 = .ok (.iload 6, 2) := by decide +kernel
theorem dX10_comes_45 : decode cX10_comes 45 = .ok (.iconst 3, 1) := by decide +kernel
theorem dX10_comes_46 : decode cX10_comes 46 = .ok (.iload 4, 2) := by decide +kernel
theorem dX10_comes_48 : decode cX10_comes 48 = .ok (.invokevirtual 80, 3) := by decide +kernel
theorem dX10_comes_51 : decode cX10_comes 51 = .ok (.aload_n 0, 1) := by decide +kernel
theorem dX10_comes_52 : decode cX10_comes 52 = .ok (.iload 6, 2) := by decide +kernel
theorem dX10_comes_54 : decode cX10_comes 54 = .ok (.iconst 4, 1) := by decide +kernel
theorem dX10_comes_55 : decode cX10_comes 55 = .ok (.iload 5, 2) := by decide +kernel
theorem dX10_comes_57 : decode cX10_comes 57 = .ok (.invokevirtual 80, 3) := by decide +kernel
theorem dX10_comes_60 : decode cX10_comes 60 = .ok (.return_, 1) := by decide +kernel
theorem dX10_one_0 : decode cX10_one 0 = .ok (.iload_n 1, 1) := by decide +kernel
theorem dX10_one_1 : decode cX10_one 1 = .ok (.i2l, 1) := by decide +kernel
theorem dX10_one_2 : decode cX10_one 2 = .ok (.lconst 0, 1) := by decide +kernel
theorem dX10_one_3 : decode cX10_one 3 = .ok (.ldc2_w 84, 3) := by decide +kernel
theorem dX10_one_6 : decode cX10_one 6 = .ok (.invokestatic 71, 3) := by decide +kernel
theorem dX10_one_9 : decode cX10_one 9 = .ok (.ifCond .eq 33, 3) := by decide +kernel
theorem dX10_one_12 : decode cX10_one 12 = .ok (.iload_n 2, 1) := by decide +kernel
theorem dX10_one_13 : decode cX10_one 13 = .ok (.invokestatic 86, 3) := by decide +kernel
theorem dX10_one_16 : decode cX10_one 16 = .ok (.ifCond .eq 26, 3) := by decide +kernel
theorem dX10_one_19 : decode cX10_one 19 = .ok (.iload_n 3, 1) := by decide +kernel
theorem dX10_one_20 : decode cX10_one 20 = .ok (.invokestatic 90, 3) := by decide +kernel
theorem dX10_one_23 : decode cX10_one 23 = .ok (.ifCond .eq 19, 3) := by decide +kernel
theorem dX10_one_26 : decode cX10_one 26 = .ok (.iload 4, 2) := by decide +kernel
theorem dX10_one_28 : decode cX10_one 28 = .ok (.invokestatic 90, 3) := by decide +kernel
theorem dX10_one_31 : decode cX10_one 31 = .ok (.ifCond .eq 11, 3) := by decide +kernel
theorem dX10_one_34 : decode cX10_one 34 = .ok (.iload 5, 2) := by decide +kernel
theorem dX10_one_36 : decode cX10_one 36 = .ok (.invokestatic 90, 3) := by decide +kernel
theorem dX10_one_39 : decode cX10_one 39 = .ok (.ifCond .ne 6, 3) := by decide +kernel
theorem dX10_one_42 : decode cX10_one 42 = .ok (.ldc 93, 2) := by decide +kernel
theorem dX10_one_44 : decode cX10_one 44 = .ok (.ireturn, 1) := by decide +kernel
theorem dX10_one_45 : decode cX10_one 45 = .ok (.aload_n 0, 1) := by decide +kernel
theorem dX10_one_46 : decode cX10_one 46 = .ok (.getfield 7, 3) := by decide +kernel
theorem dX10_one_49 : decode cX10_one 49 = .ok (.iconst 0, 1) := by decide +kernel
theorem dX10_one_50 : decode cX10_one 50 = .ok (.iaload, 1) := by decide +kernel
theorem dX10_one_51 : decode cX10_one 51 = .ok (.bipush 8, 2) := by decide +kernel
theorem dX10_one_53 : decode cX10_one 53 = .ok (.if_icmp .ne 6, 3) := by decide +kernel
theorem dX10_one_56 : decode cX10_one 56 = .ok (.ldc 94, 2) := by decide +kernel
theorem dX10_one_58 : decode cX10_one 58 = .ok (.ireturn, 1) := by decide +kernel
theorem dX10_one_59 : decode cX10_one 59 = .ok (.aload_n 0, 1) := by decide +kernel
theorem dX10_one_60 : decode cX10_one 60 = .ok (.iload_n 1, 1) := by decide +kernel
theorem dX10_one_61 : decode cX10_one 61 = .ok (.iload_n 2, 1) := by decide +kernel
theorem dX10_one_62 : decode cX10_one 62 = .ok (.iload_n 3, 1) := by decide +kernel
theorem dX10_one_63 : decode cX10_one 63 = .ok (.iload 4, 2) := by decide +kernel
theorem dX10_one_65 : decode cX10_one 65 = .ok (.iload 5, 2) := by decide +kernel
theorem dX10_one_67 : decode cX10_one 67 = .ok (.invokevirtual 95, 3) := by decide +kernel
theorem dX10_one_70 : decode cX10_one 70 = .ok (.aload_n 0, 1) := by decide +kernel
theorem dX10_one_71 : decode cX10_one 71 = .ok (.getfield 7, 3) := by decide +kernel
theorem dX10_one_74 : decode cX10_one 74 = .ok (.iconst 0, 1) := by decide +kernel
theorem dX10_one_75 : decode cX10_one 75 = .ok (.iaload, 1) := by decide +kernel
theorem dX10_one_76 : decode cX10_one 76 = .ok (.iconst 1, 1) := by decide +kernel
theorem dX10_one_77 : decode cX10_one 77 = .ok (.isub, 1) := by decide +kernel
theorem dX10_one_78 : decode cX10_one 78 = .ok (.ireturn, 1) := by decide +kernel
theorem dX10_feels_0 : decode cX10_feels 0 = .ok (.iload_n 0, 1) := by decide +kernel
theorem dX10_feels_1 : decode cX10_feels 1 = .ok (.tableswitch 59 1 5 #[35, 47, 40, 51, 57], 35) := by decide +kernel
theorem dX10_feels_36 : decode cX10_feels 36 = .ok (.iload_n 1, 1) := by decide +kernel
theorem dX10_feels_37 : decode cX10_feels 37 = .ok (.bipush 9, 2) := by decide +kernel
theorem dX10_feels_39 : decode cX10_feels 39 = .ok (.iadd, 1) := by decide +kernel
theorem dX10_feels_40 : decode cX10_feels 40 = .ok (.ireturn, 1) := by decide +kernel
theorem dX10_feels_41 : decode cX10_feels 41 = .ok (.iconst 2, 1) := by decide +kernel
theorem dX10_feels_42 : decode cX10_feels 42 = .ok (.iload_n 1, 1) := by decide +kernel
theorem dX10_feels_43 : decode cX10_feels 43 = .ok (.bipush 9, 2) := by decide +kernel
theorem dX10_feels_45 : decode cX10_feels 45 = .ok (.iadd, 1) := by decide +kernel
theorem dX10_feels_46 : decode cX10_feels 46 = .ok (.imul, 1) := by decide +kernel
theorem dX10_feels_47 : decode cX10_feels 47 = .ok (.ireturn, 1) := by decide +kernel
theorem dX10_feels_48 : decode cX10_feels 48 = .ok (.iload_n 1, 1) := by decide +kernel
theorem dX10_feels_49 : decode cX10_feels 49 = .ok (.iconst 2, 1) := by decide +kernel
theorem dX10_feels_50 : decode cX10_feels 50 = .ok (.idiv, 1) := by decide +kernel
theorem dX10_feels_51 : decode cX10_feels 51 = .ok (.ireturn, 1) := by decide +kernel
theorem dX10_feels_52 : decode cX10_feels 52 = .ok (.iload_n 1, 1) := by decide +kernel
theorem dX10_feels_53 : decode cX10_feels 53 = .ok (.iconst 2, 1) := by decide +kernel
theorem dX10_feels_54 : decode cX10_feels 54 = .ok (.idiv, 1) := by decide +kernel
theorem dX10_feels_55 : decode cX10_feels 55 = .ok (.iconst 3, 1) := by decide +kernel
theorem dX10_feels_56 : decode cX10_feels 56 = .ok (.iadd, 1) := by decide +kernel
theorem dX10_feels_57 : decode cX10_feels 57 = .ok (.ireturn, 1) := by decide +kernel
theorem dX10_feels_58 : decode cX10_feels 58 = .ok (.iconst 0, 1) := by decide +kernel
theorem dX10_feels_59 : decode cX10_feels 59 = .ok (.ireturn, 1) := by decide +kernel
theorem dX10_feels_60 : decode cX10_feels 60 = .ok (.iload_n 1, 1) := by decide +kernel
theorem dX10_feels_61 : decode cX10_feels 61 = .ok (.ireturn, 1) := by decide +kernel
theorem dX10_wears_0 : decode cX10_wears 0 = .ok (.iconst 2, 1) := by decide +kernel
theorem dX10_wears_1 : decode cX10_wears 1 = .ok (.istore 4, 2) := by decide +kernel
theorem dX10_wears_3 : decode cX10_wears 3 = .ok (.aload_n 0, 1) := by decide +kernel
theorem dX10_wears_4 : decode cX10_wears 4 = .ok (.iconst 0, 1) := by decide +kernel
theorem dX10_wears_5 : decode cX10_wears 5 = .ok (.invokevirtual 99, 3) := by decide +kernel
theorem dX10_wears_8 : decode cX10_wears 8 = .ok (.istore 5, 2) := by decide +kernel
theorem dX10_wears_10 : decode cX10_wears 10 = .ok (.iload 5, 2) := by decide +kernel
theorem dX10_wears_12 : decode cX10_wears 12 = .ok (.ifCond .lt 45, 3) := by decide +kernel
theorem dX10_wears_15 : decode cX10_wears 15 = .ok (.aload_n 0, 1) := by decide +kernel
theorem dX10_wears_16 : decode cX10_wears 16 = .ok (.getfield 55, 3) := by decide +kernel
theorem dX10_wears_19 : decode cX10_wears 19 = .ok (.bipush 114, 2) := by decide +kernel
theorem dX10_wears_21 : decode cX10_wears 21 = .ok (.iload_n 2, 1) := by decide +kernel
theorem dX10_wears_22 : decode cX10_wears 22 = .ok (.iastore, 1) := by decide +kernel
theorem dX10_wears_23 : decode cX10_wears 23 = .ok (.aload_n 0, 1) := by decide +kernel
theorem dX10_wears_24 : decode cX10_wears 24 = .ok (.getfield 55, 3) := by decide +kernel
theorem dX10_wears_27 : decode cX10_wears 27 = .ok (.bipush 115, 2) := by decide +kernel
theorem dX10_wears_29 : decode cX10_wears 29 = .ok (.iload_n 3, 1) := by decide +kernel
theorem dX10_wears_30 : decode cX10_wears 30 = .ok (.iastore, 1) := by decide +kernel
theorem dX10_wears_31 : decode cX10_wears 31 = .ok (.aload_n 0, 1) := by decide +kernel
theorem dX10_wears_32 : decode cX10_wears 32 = .ok (.getfield 55, 3) := by decide +kernel
theorem dX10_wears_35 : decode cX10_wears 35 = .ok (.bipush 116, 2) := by decide +kernel
theorem dX10_wears_37 : decode cX10_wears 37 = .ok (.aload_n 0, 1) := by decide +kernel
theorem dX10_wears_38 : decode cX10_wears 38 = .ok (.getfield 7, 3) := by decide +kernel
theorem dX10_wears_41 : decode cX10_wears 41 = .ok (.iconst 2, 1) := by decide +kernel
theorem dX10_wears_42 : decode cX10_wears 42 = .ok (.iaload, 1) := by decide +kernel
theorem dX10_wears_43 : decode cX10_wears 43 = .ok (.iastore, 1) := by decide +kernel
theorem dX10_wears_44 : decode cX10_wears 44 = .ok (.aload_n 0, 1) := by decide +kernel
theorem dX10_wears_45 : decode cX10_wears 45 = .ok (.iload 5, 2) := by decide +kernel
theorem dX10_wears_47 : decode cX10_wears 47 = .ok (.invokevirtual 103, 3) := by decide +kernel
theorem dX10_wears_50 : decode cX10_wears 50 = .ok (.bipush 99, 2) := by decide +kernel
theorem dX10_wears_52 : decode cX10_wears 52 = .ok (.invokestatic 106, 3) := by decide +kernel
theorem dX10_wears_55 : decode cX10_wears 55 = .ok (.istore 4, 2) := by decide +kernel
theorem dX10_wears_57 : decode cX10_wears 57 = .ok (.iload_n 1, 1) := by decide +kernel
theorem dX10_wears_58 : decode cX10_wears 58 = .ok (.tableswitch 47 1 4 #[30, 35, 30, 40], 30) := by decide +kernel
theorem dX10_wears_88 : decode cX10_wears 88 = .ok (.iload 4, 2) := by decide +kernel
theorem dX10_wears_90 : decode cX10_wears 90 = .ok (.iconst 2, 1) := by decide +kernel
theorem dX10_wears_91 : decode cX10_wears 91 = .ok (.idiv, 1) := by decide +kernel
theorem dX10_wears_92 : decode cX10_wears 92 = .ok (.ireturn, 1) := by decide +kernel
theorem dX10_wears_93 : decode cX10_wears 93 = .ok (.iconst 2, 1) := by decide +kernel
theorem dX10_wears_94 : decode cX10_wears 94 = .ok (.iload 4, 2) := by decide +kernel
theorem dX10_wears_96 : decode cX10_wears 96 = .ok (.imul, 1) := by decide +kernel
theorem dX10_wears_97 : decode cX10_wears 97 = .ok (.ireturn, 1) := by decide +kernel
theorem dX10_wears_98 : decode cX10_wears 98 = .ok (.iconst 2, 1) := by decide +kernel
theorem dX10_wears_99 : decode cX10_wears 99 = .ok (.iload 4, 2) := by decide +kernel
theorem dX10_wears_101 : decode cX10_wears 101 = .ok (.imul, 1) := by decide +kernel
theorem dX10_wears_102 : decode cX10_wears 102 = .ok (.iconst 1, 1) := by decide +kernel
theorem dX10_wears_103 : decode cX10_wears 103 = .ok (.iadd, 1) := by decide +kernel
theorem dX10_wears_104 : decode cX10_wears 104 = .ok (.ireturn, 1) := by decide +kernel
theorem dX10_wears_105 : decode cX10_wears 105 = .ok (.iload 4, 2) := by decide +kernel
theorem dX10_wears_107 : decode cX10_wears 107 = .ok (.ireturn, 1) := by decide +kernel
theorem dX10_worn_0 : decode cX10_worn 0 = .ok (.iload_n 2, 1) := by decide +kernel
theorem dX10_worn_1 : decode cX10_worn 1 = .ok (.aload_n 0, 1) := by decide +kernel
theorem dX10_worn_2 : decode cX10_worn 2 = .ok (.iload_n 1, 1) := by decide +kernel
theorem dX10_worn_3 : decode cX10_worn 3 = .ok (.iload_n 2, 1) := by decide +kernel
theorem dX10_worn_4 : decode cX10_worn 4 = .ok (.iload_n 3, 1) := by decide +kernel
theorem dX10_worn_5 : decode cX10_worn 5 = .ok (.invokevirtual 110, 3) := by decide +kernel
theorem dX10_worn_8 : decode cX10_worn 8 = .ok (.isub, 1) := by decide +kernel
theorem dX10_worn_9 : decode cX10_worn 9 = .ok (.istore 4, 2) := by decide +kernel
theorem dX10_worn_11 : decode cX10_worn 11 = .ok (.iload 4, 2) := by decide +kernel
theorem dX10_worn_13 : decode cX10_worn 13 = .ok (.ifCond .ge 7, 3) := by decide +kernel
theorem dX10_worn_16 : decode cX10_worn 16 = .ok (.iconst 0, 1) := by decide +kernel
theorem dX10_worn_17 : decode cX10_worn 17 = .ok (.goto 5, 3) := by decide +kernel
theorem dX10_worn_20 : decode cX10_worn 20 = .ok (.iload 4, 2) := by decide +kernel
theorem dX10_worn_22 : decode cX10_worn 22 = .ok (.ireturn, 1) := by decide +kernel
theorem dX10_regrets_0 : decode cX10_regrets 0 = .ok (.aload_n 0, 1) := by decide +kernel
theorem dX10_regrets_1 : decode cX10_regrets 1 = .ok (.iload_n 1, 1) := by decide +kernel
theorem dX10_regrets_2 : decode cX10_regrets 2 = .ok (.iconst 2, 1) := by decide +kernel
theorem dX10_regrets_3 : decode cX10_regrets 3 = .ok (.invokevirtual 114, 3) := by decide +kernel
theorem dX10_regrets_6 : decode cX10_regrets 6 = .ok (.aload_n 0, 1) := by decide +kernel
theorem dX10_regrets_7 : decode cX10_regrets 7 = .ok (.iload_n 1, 1) := by decide +kernel
theorem dX10_regrets_8 : decode cX10_regrets 8 = .ok (.iconst 3, 1) := by decide +kernel
theorem dX10_regrets_9 : decode cX10_regrets 9 = .ok (.invokevirtual 114, 3) := by decide +kernel
theorem dX10_regrets_12 : decode cX10_regrets 12 = .ok (.iadd, 1) := by decide +kernel
theorem dX10_regrets_13 : decode cX10_regrets 13 = .ok (.aload_n 0, 1) := by decide +kernel
theorem dX10_regrets_14 : decode cX10_regrets 14 = .ok (.iload_n 1, 1) := by decide +kernel
theorem dX10_regrets_15 : decode cX10_regrets 15 = .ok (.iconst 4, 1) := by decide +kernel
theorem dX10_regrets_16 : decode cX10_regrets 16 = .ok (.invokevirtual 114, 3) := by decide +kernel
theorem dX10_regrets_19 : decode cX10_regrets 19 = .ok (.iadd, 1) := by decide +kernel
theorem dX10_regrets_20 : decode cX10_regrets 20 = .ok (.ireturn, 1) := by decide +kernel
theorem dX10_worth_0 : decode cX10_worth 0 = .ok (.aload_n 0, 1) := by decide +kernel
theorem dX10_worth_1 : decode cX10_worth 1 = .ok (.iload_n 1, 1) := by decide +kernel
theorem dX10_worth_2 : decode cX10_worth 2 = .ok (.invokevirtual 117, 3) := by decide +kernel
theorem dX10_worth_5 : decode cX10_worth 5 = .ok (.istore_n 2, 1) := by decide +kernel
theorem dX10_worth_6 : decode cX10_worth 6 = .ok (.aload_n 0, 1) := by decide +kernel
theorem dX10_worth_7 : decode cX10_worth 7 = .ok (.iload_n 1, 1) := by decide +kernel
theorem dX10_worth_8 : decode cX10_worth 8 = .ok (.iconst 0, 1) := by decide +kernel
theorem dX10_worth_9 : decode cX10_worth 9 = .ok (.invokevirtual 114, 3) := by decide +kernel
theorem dX10_worth_12 : decode cX10_worth 12 = .ok (.tableswitch 61 1 5 #[36, 46, 40, 52, 58], 36) := by decide +kernel
theorem dX10_worth_48 : decode cX10_worth 48 = .ok (.iload_n 2, 1) := by decide +kernel
theorem dX10_worth_49 : decode cX10_worth 49 = .ok (.iconst 4, 1) := by decide +kernel
theorem dX10_worth_50 : decode cX10_worth 50 = .ok (.iadd, 1) := by decide +kernel
theorem dX10_worth_51 : decode cX10_worth 51 = .ok (.ireturn, 1) := by decide +kernel
theorem dX10_worth_52 : decode cX10_worth 52 = .ok (.iconst 2, 1) := by decide +kernel
theorem dX10_worth_53 : decode cX10_worth 53 = .ok (.iload_n 2, 1) := by decide +kernel
theorem dX10_worth_54 : decode cX10_worth 54 = .ok (.iconst 4, 1) := by decide +kernel
theorem dX10_worth_55 : decode cX10_worth 55 = .ok (.iadd, 1) := by decide +kernel
theorem dX10_worth_56 : decode cX10_worth 56 = .ok (.imul, 1) := by decide +kernel
theorem dX10_worth_57 : decode cX10_worth 57 = .ok (.ireturn, 1) := by decide +kernel
theorem dX10_worth_58 : decode cX10_worth 58 = .ok (.sipush 300, 3) := by decide +kernel
theorem dX10_worth_61 : decode cX10_worth 61 = .ok (.iload_n 2, 1) := by decide +kernel
theorem dX10_worth_62 : decode cX10_worth 62 = .ok (.isub, 1) := by decide +kernel
theorem dX10_worth_63 : decode cX10_worth 63 = .ok (.ireturn, 1) := by decide +kernel
theorem dX10_worth_64 : decode cX10_worth 64 = .ok (.sipush 295, 3) := by decide +kernel
theorem dX10_worth_67 : decode cX10_worth 67 = .ok (.iload_n 2, 1) := by decide +kernel
theorem dX10_worth_68 : decode cX10_worth 68 = .ok (.isub, 1) := by decide +kernel
theorem dX10_worth_69 : decode cX10_worth 69 = .ok (.ireturn, 1) := by decide +kernel
theorem dX10_worth_70 : decode cX10_worth 70 = .ok (.bipush 6, 2) := by decide +kernel
theorem dX10_worth_72 : decode cX10_worth 72 = .ok (.ireturn, 1) := by decide +kernel
theorem dX10_worth_73 : decode cX10_worth 73 = .ok (.iload_n 2, 1) := by decide +kernel
theorem dX10_worth_74 : decode cX10_worth 74 = .ok (.ireturn, 1) := by decide +kernel
theorem dX10_told_0 : decode cX10_told 0 = .ok (.aload_n 0, 1) := by decide +kernel
theorem dX10_told_1 : decode cX10_told 1 = .ok (.iload_n 1, 1) := by decide +kernel
theorem dX10_told_2 : decode cX10_told 2 = .ok (.invokevirtual 120, 3) := by decide +kernel
theorem dX10_told_5 : decode cX10_told 5 = .ok (.ifCond .eq 15, 3) := by decide +kernel
theorem dX10_told_8 : decode cX10_told 8 = .ok (.iload_n 2, 1) := by decide +kernel
theorem dX10_told_9 : decode cX10_told 9 = .ok (.i2l, 1) := by decide +kernel
theorem dX10_told_10 : decode cX10_told 10 = .ok (.lconst 0, 1) := by decide +kernel
theorem dX10_told_11 : decode cX10_told 11 = .ok (.ldc2_w 123, 3) := by decide +kernel
theorem dX10_told_14 : decode cX10_told 14 = .ok (.invokestatic 71, 3) := by decide +kernel
theorem dX10_told_17 : decode cX10_told 17 = .ok (.ifCond .ne 6, 3) := by decide +kernel
theorem dX10_told_20 : decode cX10_told 20 = .ok (.ldc 93, 2) := by decide +kernel
theorem dX10_told_22 : decode cX10_told 22 = .ok (.ireturn, 1) := by decide +kernel
theorem dX10_told_23 : decode cX10_told 23 = .ok (.iload_n 2, 1) := by decide +kernel
theorem dX10_told_24 : decode cX10_told 24 = .ok (.iconst 5, 1) := by decide +kernel
theorem dX10_told_25 : decode cX10_told 25 = .ok (.if_icmp .ge 12, 3) := by decide +kernel
theorem dX10_told_28 : decode cX10_told 28 = .ok (.aload_n 0, 1) := by decide +kernel
theorem dX10_told_29 : decode cX10_told 29 = .ok (.iload_n 1, 1) := by decide +kernel
theorem dX10_told_30 : decode cX10_told 30 = .ok (.iload_n 2, 1) := by decide +kernel
theorem dX10_told_31 : decode cX10_told 31 = .ok (.invokevirtual 114, 3) := by decide +kernel
theorem dX10_told_34 : decode cX10_told 34 = .ok (.goto 36, 3) := by decide +kernel
theorem dX10_told_37 : decode cX10_told 37 = .ok (.iload_n 2, 1) := by decide +kernel
theorem dX10_told_38 : decode cX10_told 38 = .ok (.bipush 8, 2) := by decide +kernel
theorem dX10_told_40 : decode cX10_told 40 = .ok (.if_icmp .ne 11, 3) := by decide +kernel
theorem dX10_told_43 : decode cX10_told 43 = .ok (.aload_n 0, 1) := by decide +kernel
theorem dX10_told_44 : decode cX10_told 44 = .ok (.iload_n 1, 1) := by decide +kernel
theorem dX10_told_45 : decode cX10_told 45 = .ok (.invokevirtual 125, 3) := by decide +kernel
theorem dX10_told_48 : decode cX10_told 48 = .ok (.goto 22, 3) := by decide +kernel
theorem dX10_told_51 : decode cX10_told 51 = .ok (.aload_n 0, 1) := by decide +kernel
theorem dX10_told_52 : decode cX10_told 52 = .ok (.iload_n 1, 1) := by decide +kernel
theorem dX10_told_53 : decode cX10_told 53 = .ok (.iconst 0, 1) := by decide +kernel
theorem dX10_told_54 : decode cX10_told 54 = .ok (.invokevirtual 114, 3) := by decide +kernel
theorem dX10_told_57 : decode cX10_told 57 = .ok (.aload_n 0, 1) := by decide +kernel
theorem dX10_told_58 : decode cX10_told 58 = .ok (.iload_n 1, 1) := by decide +kernel
theorem dX10_told_59 : decode cX10_told 59 = .ok (.iconst 2, 1) := by decide +kernel
theorem dX10_told_60 : decode cX10_told 60 = .ok (.iload_n 2, 1) := by decide +kernel
theorem dX10_told_61 : decode cX10_told 61 = .ok (.iadd, 1) := by decide +kernel
theorem dX10_told_62 : decode cX10_told 62 = .ok (.iconst 5, 1) := by decide +kernel
theorem dX10_told_63 : decode cX10_told 63 = .ok (.isub, 1) := by decide +kernel
theorem dX10_told_64 : decode cX10_told 64 = .ok (.invokevirtual 114, 3) := by decide +kernel
theorem dX10_told_67 : decode cX10_told 67 = .ok (.invokestatic 128, 3) := by decide +kernel
theorem dX10_told_70 : decode cX10_told 70 = .ok (.ireturn, 1) := by decide +kernel
theorem dX10_as_0 : decode cX10_as 0 = .ok (.aload_n 0, 1) := by decide +kernel
theorem dX10_as_1 : decode cX10_as 1 = .ok (.iload_n 1, 1) := by decide +kernel
theorem dX10_as_2 : decode cX10_as 2 = .ok (.invokevirtual 120, 3) := by decide +kernel
theorem dX10_as_5 : decode cX10_as 5 = .ok (.ifCond .eq 15, 3) := by decide +kernel
theorem dX10_as_8 : decode cX10_as 8 = .ok (.iload_n 2, 1) := by decide +kernel
theorem dX10_as_9 : decode cX10_as 9 = .ok (.i2l, 1) := by decide +kernel
theorem dX10_as_10 : decode cX10_as 10 = .ok (.lconst 0, 1) := by decide +kernel
theorem dX10_as_11 : decode cX10_as 11 = .ok (.ldc2_w 84, 3) := by decide +kernel
theorem dX10_as_14 : decode cX10_as 14 = .ok (.invokestatic 71, 3) := by decide +kernel
theorem dX10_as_17 : decode cX10_as 17 = .ok (.ifCond .ne 6, 3) := by decide +kernel
theorem dX10_as_20 : decode cX10_as 20 = .ok (.ldc 93, 2) := by decide +kernel
theorem dX10_as_22 : decode cX10_as 22 = .ok (.ireturn, 1) := by decide +kernel
theorem dX10_as_23 : decode cX10_as 23 = .ok (.aload_n 0, 1) := by decide +kernel
theorem dX10_as_24 : decode cX10_as 24 = .ok (.iload_n 1, 1) := by decide +kernel
theorem dX10_as_25 : decode cX10_as 25 = .ok (.iconst 0, 1) := by decide +kernel
theorem dX10_as_26 : decode cX10_as 26 = .ok (.invokevirtual 114, 3) := by decide +kernel
theorem dX10_as_29 : decode cX10_as 29 = .ok (.iload_n 2, 1) := by decide +kernel
theorem dX10_as_30 : decode cX10_as 30 = .ok (.invokestatic 131, 3) := by decide +kernel
theorem dX10_as_33 : decode cX10_as 33 = .ok (.ifCond .eq 12, 3) := by decide +kernel
theorem dX10_as_36 : decode cX10_as 36 = .ok (.aload_n 0, 1) := by decide +kernel
theorem dX10_as_37 : decode cX10_as 37 = .ok (.iload_n 1, 1) := by decide +kernel
theorem dX10_as_38 : decode cX10_as 38 = .ok (.iconst 1, 1) := by decide +kernel
theorem dX10_as_39 : decode cX10_as 39 = .ok (.invokevirtual 114, 3) := by decide +kernel
theorem dX10_as_42 : decode cX10_as 42 = .ok (.goto 5, 3) := by decide +kernel
theorem dX10_as_45 : decode cX10_as 45 = .ok (.ldc 135, 2) := by decide +kernel
theorem dX10_as_47 : decode cX10_as 47 = .ok (.ireturn, 1) := by decide +kernel
theorem dX10_turns_0 : decode cX10_turns 0 = .ok (.aload_n 0, 1) := by decide +kernel
theorem dX10_turns_1 : decode cX10_turns 1 = .ok (.iload_n 1, 1) := by decide +kernel
theorem dX10_turns_2 : decode cX10_turns 2 = .ok (.invokevirtual 120, 3) := by decide +kernel
theorem dX10_turns_5 : decode cX10_turns 5 = .ok (.ifCond .eq 29, 3) := by decide +kernel
theorem dX10_turns_8 : decode cX10_turns 8 = .ok (.iload_n 2, 1) := by decide +kernel
theorem dX10_turns_9 : decode cX10_turns 9 = .ok (.i2l, 1) := by decide +kernel
theorem dX10_turns_10 : decode cX10_turns 10 = .ok (.lconst 0, 1) := by decide +kernel
theorem dX10_turns_11 : decode cX10_turns 11 = .ok (.ldc2_w 84, 3) := by decide +kernel
theorem dX10_turns_14 : decode cX10_turns 14 = .ok (.invokestatic 71, 3) := by decide +kernel
theorem dX10_turns_17 : decode cX10_turns 17 = .ok (.ifCond .eq 17, 3) := by decide +kernel
theorem dX10_turns_20 : decode cX10_turns 20 = .ok (.aload_n 0, 1) := by decide +kernel
theorem dX10_turns_21 : decode cX10_turns 21 = .ok (.bipush 10, 2) := by decide +kernel
theorem dX10_turns_23 : decode cX10_turns 23 = .ok (.iconst 5, 1) := by decide +kernel
theorem dX10_turns_24 : decode cX10_turns 24 = .ok (.iload_n 1, 1) := by decide +kernel
theorem dX10_turns_25 : decode cX10_turns 25 = .ok (.imul, 1) := by decide +kernel
theorem dX10_turns_26 : decode cX10_turns 26 = .ok (.iadd, 1) := by decide +kernel
theorem dX10_turns_27 : decode cX10_turns 27 = .ok (.iload_n 2, 1) := by decide +kernel
theorem dX10_turns_28 : decode cX10_turns 28 = .ok (.invokevirtual 136, 3) := by decide +kernel
theorem dX10_turns_31 : decode cX10_turns 31 = .ok (.goto 5, 3) := by decide +kernel
theorem dX10_turns_34 : decode cX10_turns 34 = .ok (.ldc 93, 2) := by decide +kernel
theorem dX10_turns_36 : decode cX10_turns 36 = .ok (.ireturn, 1) := by decide +kernel
theorem dX10_set_0 : decode cX10_set 0 = .ok (.aload_n 0, 1) := by decide +kernel
theorem dX10_set_1 : decode cX10_set 1 = .ok (.iload_n 1, 1) := by decide +kernel
theorem dX10_set_2 : decode cX10_set 2 = .ok (.invokevirtual 120, 3) := by decide +kernel
theorem dX10_set_5 : decode cX10_set 5 = .ok (.ifCond .eq 38, 3) := by decide +kernel
theorem dX10_set_8 : decode cX10_set 8 = .ok (.iload_n 2, 1) := by decide +kernel
theorem dX10_set_9 : decode cX10_set 9 = .ok (.i2l, 1) := by decide +kernel
theorem dX10_set_10 : decode cX10_set 10 = .ok (.lconst 1, 1) := by decide +kernel
theorem dX10_set_11 : decode cX10_set 11 = .ok (.ldc2_w 139, 3) := by decide +kernel
theorem dX10_set_14 : decode cX10_set 14 = .ok (.invokestatic 71, 3) := by decide +kernel
theorem dX10_set_17 : decode cX10_set 17 = .ok (.ifCond .eq 26, 3) := by decide +kernel
theorem dX10_set_20 : decode cX10_set 20 = .ok (.iload_n 3, 1) := by decide +kernel
theorem dX10_set_21 : decode cX10_set 21 = .ok (.i2l, 1) := by decide +kernel
theorem dX10_set_22 : decode cX10_set 22 = .ok (.lconst 0, 1) := by decide +kernel
theorem dX10_set_23 : decode cX10_set 23 = .ok (.iload_n 2, 1) := by decide +kernel
theorem dX10_set_24 : decode cX10_set 24 = .ok (.iconst 1, 1) := by decide +kernel
theorem dX10_set_25 : decode cX10_set 25 = .ok (.if_icmp .ne 9, 3) := by decide +kernel
theorem dX10_set_28 : decode cX10_set 28 = .ok (.ldc2_w 76, 3) := by decide +kernel
theorem dX10_set_31 : decode cX10_set 31 = .ok (.goto 6, 3) := by decide +kernel
theorem dX10_set_34 : decode cX10_set 34 = .ok (.ldc2_w 78, 3) := by decide +kernel
theorem dX10_set_37 : decode cX10_set 37 = .ok (.invokestatic 71, 3) := by decide +kernel
theorem dX10_set_40 : decode cX10_set 40 = .ok (.ifCond .ne 6, 3) := by decide +kernel
theorem dX10_set_43 : decode cX10_set 43 = .ok (.ldc 93, 2) := by decide +kernel
theorem dX10_set_45 : decode cX10_set 45 = .ok (.ireturn, 1) := by decide +kernel
theorem dX10_set_46 : decode cX10_set 46 = .ok (.aload_n 0, 1) := by decide +kernel
theorem dX10_set_47 : decode cX10_set 47 = .ok (.bipush 10, 2) := by decide +kernel
theorem dX10_set_49 : decode cX10_set 49 = .ok (.iconst 5, 1) := by decide +kernel
theorem dX10_set_50 : decode cX10_set 50 = .ok (.iload_n 1, 1) := by decide +kernel
theorem dX10_set_51 : decode cX10_set 51 = .ok (.imul, 1) := by decide +kernel
theorem dX10_set_52 : decode cX10_set 52 = .ok (.iadd, 1) := by decide +kernel
theorem dX10_set_53 : decode cX10_set 53 = .ok (.iload_n 2, 1) := by decide +kernel
theorem dX10_set_54 : decode cX10_set 54 = .ok (.iadd, 1) := by decide +kernel
theorem dX10_set_55 : decode cX10_set 55 = .ok (.iload_n 3, 1) := by decide +kernel
theorem dX10_set_56 : decode cX10_set 56 = .ok (.invokevirtual 136, 3) := by decide +kernel
theorem dX10_set_59 : decode cX10_set 59 = .ok (.ireturn, 1) := by decide +kernel
theorem dX10_isLockSo_0 : decode cX10_isLockSo 0 = .ok (.iload_n 0, 1) := by decide +kernel
theorem dX10_isLockSo_1 : decode cX10_isLockSo 1 = .ok (.invokestatic 86, 3) := by decide +kernel
theorem dX10_isLockSo_4 : decode cX10_isLockSo 4 = .ok (.ifCond .eq 33, 3) := by decide +kernel
theorem dX10_isLockSo_7 : decode cX10_isLockSo 7 = .ok (.iload_n 1, 1) := by decide +kernel
theorem dX10_isLockSo_8 : decode cX10_isLockSo 8 = .ok (.invokestatic 86, 3) := by decide +kernel
theorem dX10_isLockSo_11 : decode cX10_isLockSo 11 = .ok (.ifCond .eq 26, 3) := by decide +kernel
theorem dX10_isLockSo_14 : decode cX10_isLockSo 14 = .ok (.iload_n 2, 1) := by decide +kernel
theorem dX10_isLockSo_15 : decode cX10_isLockSo 15 = .ok (.i2l, 1) := by decide +kernel
theorem dX10_isLockSo_16 : decode cX10_isLockSo 16 = .ok (.lconst 0, 1) := by decide +kernel
theorem dX10_isLockSo_17 : decode cX10_isLockSo 17 = .ok (.ldc2_w 141, 3) := by decide +kernel
theorem dX10_isLockSo_20 : decode cX10_isLockSo 20 = .ok (.invokestatic 71, 3) := by decide +kernel
theorem dX10_isLockSo_23 : decode cX10_isLockSo 23 = .ok (.ifCond .eq 14, 3) := by decide +kernel
theorem dX10_isLockSo_26 : decode cX10_isLockSo 26 = .ok (.iload_n 3, 1) := by decide +kernel
theorem dX10_isLockSo_27 : decode cX10_isLockSo 27 = .ok (.invokestatic 90, 3) := by decide +kernel
theorem dX10_isLockSo_30 : decode cX10_isLockSo 30 = .ok (.ifCond .eq 7, 3) := by decide +kernel
theorem dX10_isLockSo_33 : decode cX10_isLockSo 33 = .ok (.iconst 1, 1) := by decide +kernel
theorem dX10_isLockSo_34 : decode cX10_isLockSo 34 = .ok (.goto 4, 3) := by decide +kernel
theorem dX10_isLockSo_37 : decode cX10_isLockSo 37 = .ok (.iconst 0, 1) := by decide +kernel
theorem dX10_isLockSo_38 : decode cX10_isLockSo 38 = .ok (.ireturn, 1) := by decide +kernel
theorem dX10_lock_0 : decode cX10_lock 0 = .ok (.iload_n 1, 1) := by decide +kernel
theorem dX10_lock_1 : decode cX10_lock 1 = .ok (.iload_n 2, 1) := by decide +kernel
theorem dX10_lock_2 : decode cX10_lock 2 = .ok (.iload_n 3, 1) := by decide +kernel
theorem dX10_lock_3 : decode cX10_lock 3 = .ok (.iload 4, 2) := by decide +kernel
theorem dX10_lock_5 : decode cX10_lock 5 = .ok (.invokestatic 143, 3) := by decide +kernel
theorem dX10_lock_8 : decode cX10_lock 8 = .ok (.ifCond .ne 6, 3) := by decide +kernel
theorem dX10_lock_11 : decode cX10_lock 11 = .ok (.ldc 93, 2) := by decide +kernel
theorem dX10_lock_13 : decode cX10_lock 13 = .ok (.ireturn, 1) := by decide +kernel
theorem dX10_lock_14 : decode cX10_lock 14 = .ok (.aload_n 0, 1) := by decide +kernel
theorem dX10_lock_15 : decode cX10_lock 15 = .ok (.getfield 7, 3) := by decide +kernel
theorem dX10_lock_18 : decode cX10_lock 18 = .ok (.bipush 8, 2) := by decide +kernel
theorem dX10_lock_20 : decode cX10_lock 20 = .ok (.iaload, 1) := by decide +kernel
theorem dX10_lock_21 : decode cX10_lock 21 = .ok (.bipush 10, 2) := by decide +kernel
theorem dX10_lock_23 : decode cX10_lock 23 = .ok (.if_icmp .ne 6, 3) := by decide +kernel
theorem dX10_lock_26 : decode cX10_lock 26 = .ok (.ldc 94, 2) := by decide +kernel
theorem dX10_lock_28 : decode cX10_lock 28 = .ok (.ireturn, 1) := by decide +kernel
theorem dX10_lock_29 : decode cX10_lock 29 = .ok (.bipush 50, 2) := by decide +kernel
theorem dX10_lock_31 : decode cX10_lock 31 = .ok (.iconst 5, 1) := by decide +kernel
theorem dX10_lock_32 : decode cX10_lock 32 = .ok (.aload_n 0, 1) := by decide +kernel
theorem dX10_lock_33 : decode cX10_lock 33 = .ok (.getfield 7, 3) := by decide +kernel
theorem dX10_lock_36 : decode cX10_lock 36 = .ok (.bipush 8, 2) := by decide +kernel
theorem dX10_lock_38 : decode cX10_lock 38 = .ok (.iaload, 1) := by decide +kernel
theorem dX10_lock_39 : decode cX10_lock 39 = .ok (.imul, 1) := by decide +kernel
theorem dX10_lock_40 : decode cX10_lock 40 = .ok (.iadd, 1) := by decide +kernel
theorem dX10_lock_41 : decode cX10_lock 41 = .ok (.istore 5, 2) := by decide +kernel
theorem dX10_lock_43 : decode cX10_lock 43 = .ok (.aload_n 0, 1) := by decide +kernel
theorem dX10_lock_44 : decode cX10_lock 44 = .ok (.getfield 7, 3) := by decide +kernel
theorem dX10_lock_47 : decode cX10_lock 47 = .ok (.iload 5, 2) := by decide +kernel
theorem dX10_lock_49 : decode cX10_lock 49 = .ok (.iconst 0, 1) := by decide +kernel
theorem dX10_lock_50 : decode cX10_lock 50 = .ok (.iadd, 1) := by decide +kernel
theorem dX10_lock_51 : decode cX10_lock 51 = .ok (.iload_n 1, 1) := by decide +kernel
theorem dX10_lock_52 : decode cX10_lock 52 = .ok (.iastore, 1) := by decide +kernel
theorem dX10_lock_53 : decode cX10_lock 53 = .ok (.aload_n 0, 1) := by decide +kernel
theorem dX10_lock_54 : decode cX10_lock 54 = .ok (.getfield 7, 3) := by decide +kernel
theorem dX10_lock_57 : decode cX10_lock 57 = .ok (.iload 5, 2) := by decide +kernel
theorem dX10_lock_59 : decode cX10_lock 59 = .ok (.iconst 1, 1) := by decide +kernel
theorem dX10_lock_60 : decode cX10_lock 60 = .ok (.iadd, 1) := by decide +kernel
theorem dX10_lock_61 : decode cX10_lock 61 = .ok (.iload_n 2, 1) := by decide +kernel
theorem dX10_lock_62 : decode cX10_lock 62 = .ok (.iastore, 1) := by decide +kernel
theorem dX10_lock_63 : decode cX10_lock 63 = .ok (.aload_n 0, 1) := by decide +kernel
theorem dX10_lock_64 : decode cX10_lock 64 = .ok (.getfield 7, 3) := by decide +kernel
theorem dX10_lock_67 : decode cX10_lock 67 = .ok (.iload 5, 2) := by decide +kernel
theorem dX10_lock_69 : decode cX10_lock 69 = .ok (.iconst 2, 1) := by decide +kernel
theorem dX10_lock_70 : decode cX10_lock 70 = .ok (.iadd, 1) := by decide +kernel
theorem dX10_lock_71 : decode cX10_lock 71 = .ok (.iload_n 3, 1) := by decide +kernel
theorem dX10_lock_72 : decode cX10_lock 72 = .ok (.iastore, 1) := by decide +kernel
theorem dX10_lock_73 : decode cX10_lock 73 = .ok (.aload_n 0, 1) := by decide +kernel
theorem dX10_lock_74 : decode cX10_lock 74 = .ok (.getfield 7, 3) := by decide +kernel
theorem dX10_lock_77 : decode cX10_lock 77 = .ok (.iload 5, 2) := by decide +kernel
theorem dX10_lock_79 : decode cX10_lock 79 = .ok (.iconst 3, 1) := by decide +kernel
theorem dX10_lock_80 : decode cX10_lock 80 = .ok (.iadd, 1) := by decide +kernel
theorem dX10_lock_81 : decode cX10_lock 81 = .ok (.iload 4, 2) := by decide +kernel
theorem dX10_lock_83 : decode cX10_lock 83 = .ok (.iastore, 1) := by decide +kernel
theorem dX10_lock_84 : decode cX10_lock 84 = .ok (.aload_n 0, 1) := by decide +kernel
theorem dX10_lock_85 : decode cX10_lock 85 = .ok (.getfield 7, 3) := by decide +kernel
theorem dX10_lock_88 : decode cX10_lock 88 = .ok (.iload 5, 2) := by decide +kernel
theorem dX10_lock_90 : decode cX10_lock 90 = .ok (.iconst 4, 1) := by decide +kernel
theorem dX10_lock_91 : decode cX10_lock 91 = .ok (.iadd, 1) := by decide +kernel
theorem dX10_lock_92 : decode cX10_lock 92 = .ok (.iconst 0, 1) := by decide +kernel
theorem dX10_lock_93 : decode cX10_lock 93 = .ok (.iastore, 1) := by decide +kernel
theorem dX10_lock_94 : decode cX10_lock 94 = .ok (.aload_n 0, 1) := by decide +kernel
theorem dX10_lock_95 : decode cX10_lock 95 = .ok (.getfield 7, 3) := by decide +kernel
theorem dX10_lock_98 : decode cX10_lock 98 = .ok (.bipush 8, 2) := by decide +kernel
theorem dX10_lock_100 : decode cX10_lock 100 = .ok (.dup2, 1) := by decide +kernel
theorem dX10_lock_101 : decode cX10_lock 101 = .ok (.iaload, 1) := by decide +kernel
theorem dX10_lock_102 : decode cX10_lock 102 = .ok (.iconst 1, 1) := by decide +kernel
theorem dX10_lock_103 : decode cX10_lock 103 = .ok (.iadd, 1) := by decide +kernel
theorem dX10_lock_104 : decode cX10_lock 104 = .ok (.iastore, 1) := by decide +kernel
theorem dX10_lock_105 : decode cX10_lock 105 = .ok (.aload_n 0, 1) := by decide +kernel
theorem dX10_lock_106 : decode cX10_lock 106 = .ok (.getfield 7, 3) := by decide +kernel
theorem dX10_lock_109 : decode cX10_lock 109 = .ok (.bipush 8, 2) := by decide +kernel
theorem dX10_lock_111 : decode cX10_lock 111 = .ok (.iaload, 1) := by decide +kernel
theorem dX10_lock_112 : decode cX10_lock 112 = .ok (.iconst 1, 1) := by decide +kernel
theorem dX10_lock_113 : decode cX10_lock 113 = .ok (.isub, 1) := by decide +kernel
theorem dX10_lock_114 : decode cX10_lock 114 = .ok (.ireturn, 1) := by decide +kernel
theorem dX10_isOpen_0 : decode cX10_isOpen 0 = .ok (.aload_n 0, 1) := by decide +kernel
theorem dX10_isOpen_1 : decode cX10_isOpen 1 = .ok (.iload_n 1, 1) := by decide +kernel
theorem dX10_isOpen_2 : decode cX10_isOpen 2 = .ok (.iconst 4, 1) := by decide +kernel
theorem dX10_isOpen_3 : decode cX10_isOpen 3 = .ok (.invokevirtual 147, 3) := by decide +kernel
theorem dX10_isOpen_6 : decode cX10_isOpen 6 = .ok (.ifCond .ne 38, 3) := by decide +kernel
theorem dX10_isOpen_9 : decode cX10_isOpen 9 = .ok (.aload_n 0, 1) := by decide +kernel
theorem dX10_isOpen_10 : decode cX10_isOpen 10 = .ok (.iload_n 2, 1) := by decide +kernel
theorem dX10_isOpen_11 : decode cX10_isOpen 11 = .ok (.iconst 0, 1) := by decide +kernel
theorem dX10_isOpen_12 : decode cX10_isOpen 12 = .ok (.invokevirtual 114, 3) := by decide +kernel
theorem dX10_isOpen_15 : decode cX10_isOpen 15 = .ok (.aload_n 0, 1) := by decide +kernel
theorem dX10_isOpen_16 : decode cX10_isOpen 16 = .ok (.iload_n 2, 1) := by decide +kernel
theorem dX10_isOpen_17 : decode cX10_isOpen 17 = .ok (.iconst 2, 1) := by decide +kernel
theorem dX10_isOpen_18 : decode cX10_isOpen 18 = .ok (.aload_n 0, 1) := by decide +kernel
theorem dX10_isOpen_19 : decode cX10_isOpen 19 = .ok (.iload_n 1, 1) := by decide +kernel
theorem dX10_isOpen_20 : decode cX10_isOpen 20 = .ok (.iconst 2, 1) := by decide +kernel
theorem dX10_isOpen_21 : decode cX10_isOpen 21 = .ok (.invokevirtual 147, 3) := by decide +kernel
theorem dX10_isOpen_24 : decode cX10_isOpen 24 = .ok (.iadd, 1) := by decide +kernel
theorem dX10_isOpen_25 : decode cX10_isOpen 25 = .ok (.invokevirtual 114, 3) := by decide +kernel
theorem dX10_isOpen_28 : decode cX10_isOpen 28 = .ok (.invokestatic 128, 3) := by decide +kernel
theorem dX10_isOpen_31 : decode cX10_isOpen 31 = .ok (.aload_n 0, 1) := by decide +kernel
theorem dX10_isOpen_32 : decode cX10_isOpen 32 = .ok (.iload_n 1, 1) := by decide +kernel
theorem dX10_isOpen_33 : decode cX10_isOpen 33 = .ok (.iconst 3, 1) := by decide +kernel
theorem dX10_isOpen_34 : decode cX10_isOpen 34 = .ok (.invokevirtual 147, 3) := by decide +kernel
theorem dX10_isOpen_37 : decode cX10_isOpen 37 = .ok (.if_icmp .lt 7, 3) := by decide +kernel
theorem dX10_isOpen_40 : decode cX10_isOpen 40 = .ok (.iconst 1, 1) := by decide +kernel
theorem dX10_isOpen_41 : decode cX10_isOpen 41 = .ok (.goto 4, 3) := by decide +kernel
theorem dX10_isOpen_44 : decode cX10_isOpen 44 = .ok (.iconst 0, 1) := by decide +kernel
theorem dX10_isOpen_45 : decode cX10_isOpen 45 = .ok (.ireturn, 1) := by decide +kernel
theorem dX10_about_0 : decode cX10_about 0 = .ok (.aload_n 0, 1) := by decide +kernel
theorem dX10_about_1 : decode cX10_about 1 = .ok (.iload_n 1, 1) := by decide +kernel
theorem dX10_about_2 : decode cX10_about 2 = .ok (.invokevirtual 150, 3) := by decide +kernel
theorem dX10_about_5 : decode cX10_about 5 = .ok (.ifCond .eq 15, 3) := by decide +kernel
theorem dX10_about_8 : decode cX10_about 8 = .ok (.iload_n 2, 1) := by decide +kernel
theorem dX10_about_9 : decode cX10_about 9 = .ok (.i2l, 1) := by decide +kernel
theorem dX10_about_10 : decode cX10_about 10 = .ok (.lconst 0, 1) := by decide +kernel
theorem dX10_about_11 : decode cX10_about 11 = .ok (.ldc2_w 84, 3) := by decide +kernel
theorem dX10_about_14 : decode cX10_about 14 = .ok (.invokestatic 71, 3) := by decide +kernel
theorem dX10_about_17 : decode cX10_about 17 = .ok (.ifCond .ne 6, 3) := by decide +kernel
theorem dX10_about_20 : decode cX10_about 20 = .ok (.ldc 93, 2) := by decide +kernel
theorem dX10_about_22 : decode cX10_about 22 = .ok (.ireturn, 1) := by decide +kernel
theorem dX10_about_23 : decode cX10_about 23 = .ok (.iload_n 2, 1) := by decide +kernel
theorem dX10_about_24 : decode cX10_about 24 = .ok (.iconst 5, 1) := by decide +kernel
theorem dX10_about_25 : decode cX10_about 25 = .ok (.if_icmp .ge 10, 3) := by decide +kernel
theorem dX10_about_28 : decode cX10_about 28 = .ok (.aload_n 0, 1) := by decide +kernel
theorem dX10_about_29 : decode cX10_about 29 = .ok (.iload_n 1, 1) := by decide +kernel
theorem dX10_about_30 : decode cX10_about 30 = .ok (.iload_n 2, 1) := by decide +kernel
theorem dX10_about_31 : decode cX10_about 31 = .ok (.invokevirtual 147, 3) := by decide +kernel
theorem dX10_about_34 : decode cX10_about 34 = .ok (.ireturn, 1) := by decide +kernel
theorem dX10_about_35 : decode cX10_about 35 = .ok (.iconst 0, 1) := by decide +kernel
theorem dX10_about_36 : decode cX10_about 36 = .ok (.istore_n 3, 1) := by decide +kernel
theorem dX10_about_37 : decode cX10_about 37 = .ok (.iconst 0, 1) := by decide +kernel
theorem dX10_about_38 : decode cX10_about 38 = .ok (.istore 4, 2) := by decide +kernel
theorem dX10_about_40 : decode cX10_about 40 = .ok (.iload 4, 2) := by decide +kernel
theorem dX10_about_42 : decode cX10_about 42 = .ok (.aload_n 0, 1) := by decide +kernel
theorem dX10_about_43 : decode cX10_about 43 = .ok (.getfield 7, 3) := by decide +kernel
theorem dX10_about_46 : decode cX10_about 46 = .ok (.iconst 0, 1) := by decide +kernel
theorem dX10_about_47 : decode cX10_about 47 = .ok (.iaload, 1) := by decide +kernel
theorem dX10_about_48 : decode cX10_about 48 = .ok (.if_icmp .ge 30, 3) := by decide +kernel
theorem dX10_about_51 : decode cX10_about 51 = .ok (.iload_n 3, 1) := by decide +kernel
theorem dX10_about_52 : decode cX10_about 52 = .ok (.aload_n 0, 1) := by decide +kernel
theorem dX10_about_53 : decode cX10_about 53 = .ok (.iload_n 1, 1) := by decide +kernel
theorem dX10_about_54 : decode cX10_about 54 = .ok (.iload 4, 2) := by decide +kernel
theorem dX10_about_56 : decode cX10_about 56 = .ok (.invokevirtual 153, 3) := by decide +kernel
theorem dX10_about_59 : decode cX10_about 59 = .ok (.ifCond .eq 10, 3) := by decide +kernel
theorem dX10_about_62 : decode cX10_about 62 = .ok (.iconst 1, 1) := by decide +kernel
theorem dX10_about_63 : decode cX10_about 63 = .ok (.iload 4, 2) := by decide +kernel
theorem dX10_about_65 : decode cX10_about 65 = .ok (.ishl, 1) := by decide +kernel
theorem dX10_about_66 : decode cX10_about 66 = .ok (.goto 4, 3) := by decide +kernel
theorem dX10_about_69 : decode cX10_about 69 = .ok (.iconst 0, 1) := by decide +kernel
theorem dX10_about_70 : decode cX10_about 70 = .ok (.ior, 1) := by decide +kernel
theorem dX10_about_71 : decode cX10_about 71 = .ok (.istore_n 3, 1) := by decide +kernel
theorem dX10_about_72 : decode cX10_about 72 = .ok (.iinc 4 1, 3) := by decide +kernel
theorem dX10_about_75 : decode cX10_about 75 = .ok (.goto (-35), 3) := by decide +kernel
theorem dX10_about_78 : decode cX10_about 78 = .ok (.iload_n 3, 1) := by decide +kernel
theorem dX10_about_79 : decode cX10_about 79 = .ok (.ireturn, 1) := by decide +kernel
theorem dX10_sets_0 : decode cX10_sets 0 = .ok (.aload_n 0, 1) := by decide +kernel
theorem dX10_sets_1 : decode cX10_sets 1 = .ok (.iload_n 1, 1) := by decide +kernel
theorem dX10_sets_2 : decode cX10_sets 2 = .ok (.invokevirtual 150, 3) := by decide +kernel
theorem dX10_sets_5 : decode cX10_sets 5 = .ok (.ifCond .eq 49, 3) := by decide +kernel
theorem dX10_sets_8 : decode cX10_sets 8 = .ok (.iload_n 2, 1) := by decide +kernel
theorem dX10_sets_9 : decode cX10_sets 9 = .ok (.i2l, 1) := by decide +kernel
theorem dX10_sets_10 : decode cX10_sets 10 = .ok (.lconst 0, 1) := by decide +kernel
theorem dX10_sets_11 : decode cX10_sets 11 = .ok (.ldc2_w 156, 3) := by decide +kernel
theorem dX10_sets_14 : decode cX10_sets 14 = .ok (.invokestatic 71, 3) := by decide +kernel
theorem dX10_sets_17 : decode cX10_sets 17 = .ok (.ifCond .eq 37, 3) := by decide +kernel
theorem dX10_sets_20 : decode cX10_sets 20 = .ok (.iload_n 3, 1) := by decide +kernel
theorem dX10_sets_21 : decode cX10_sets 21 = .ok (.i2l, 1) := by decide +kernel
theorem dX10_sets_22 : decode cX10_sets 22 = .ok (.lconst 0, 1) := by decide +kernel
theorem dX10_sets_23 : decode cX10_sets 23 = .ok (.iload_n 2, 1) := by decide +kernel
theorem dX10_sets_24 : decode cX10_sets 24 = .ok (.iconst 2, 1) := by decide +kernel
theorem dX10_sets_25 : decode cX10_sets 25 = .ok (.if_icmp .ge 9, 3) := by decide +kernel
theorem dX10_sets_28 : decode cX10_sets 28 = .ok (.ldc2_w 76, 3) := by decide +kernel
theorem dX10_sets_31 : decode cX10_sets 31 = .ok (.goto 17, 3) := by decide +kernel
theorem dX10_sets_34 : decode cX10_sets 34 = .ok (.iload_n 2, 1) := by decide +kernel
theorem dX10_sets_35 : decode cX10_sets 35 = .ok (.iconst 2, 1) := by decide +kernel
theorem dX10_sets_36 : decode cX10_sets 36 = .ok (.if_icmp .ne 9, 3) := by decide +kernel
theorem dX10_sets_39 : decode cX10_sets 39 = .ok (.ldc2_w 141, 3) := by decide +kernel
theorem dX10_sets_42 : decode cX10_sets 42 = .ok (.goto 6, 3) := by decide +kernel
theorem dX10_sets_45 : decode cX10_sets 45 = .ok (.ldc2_w 78, 3) := by decide +kernel
theorem dX10_sets_48 : decode cX10_sets 48 = .ok (.invokestatic 71, 3) := by decide +kernel
theorem dX10_sets_51 : decode cX10_sets 51 = .ok (.ifCond .ne 6, 3) := by decide +kernel
theorem dX10_sets_54 : decode cX10_sets 54 = .ok (.ldc 93, 2) := by decide +kernel
theorem dX10_sets_56 : decode cX10_sets 56 = .ok (.ireturn, 1) := by decide +kernel
theorem dX10_sets_57 : decode cX10_sets 57 = .ok (.aload_n 0, 1) := by decide +kernel
theorem dX10_sets_58 : decode cX10_sets 58 = .ok (.bipush 50, 2) := by decide +kernel
theorem dX10_sets_60 : decode cX10_sets 60 = .ok (.iconst 5, 1) := by decide +kernel
theorem dX10_sets_61 : decode cX10_sets 61 = .ok (.iload_n 1, 1) := by decide +kernel
theorem dX10_sets_62 : decode cX10_sets 62 = .ok (.imul, 1) := by decide +kernel
theorem dX10_sets_63 : decode cX10_sets 63 = .ok (.iadd, 1) := by decide +kernel
theorem dX10_sets_64 : decode cX10_sets 64 = .ok (.iload_n 2, 1) := by decide +kernel
theorem dX10_sets_65 : decode cX10_sets 65 = .ok (.iadd, 1) := by decide +kernel
theorem dX10_sets_66 : decode cX10_sets 66 = .ok (.iload_n 3, 1) := by decide +kernel
theorem dX10_sets_67 : decode cX10_sets 67 = .ok (.invokevirtual 136, 3) := by decide +kernel
theorem dX10_sets_70 : decode cX10_sets 70 = .ok (.ireturn, 1) := by decide +kernel
theorem dX10_mends_0 : decode cX10_mends 0 = .ok (.aload_n 0, 1) := by decide +kernel
theorem dX10_mends_1 : decode cX10_mends 1 = .ok (.iload_n 1, 1) := by decide +kernel
theorem dX10_mends_2 : decode cX10_mends 2 = .ok (.invokevirtual 150, 3) := by decide +kernel
theorem dX10_mends_5 : decode cX10_mends 5 = .ok (.ifCond .ne 6, 3) := by decide +kernel
theorem dX10_mends_8 : decode cX10_mends 8 = .ok (.ldc 93, 2) := by decide +kernel
theorem dX10_mends_10 : decode cX10_mends 10 = .ok (.ireturn, 1) := by decide +kernel
theorem dX10_mends_11 : decode cX10_mends 11 = .ok (.aload_n 0, 1) := by decide +kernel
theorem dX10_mends_12 : decode cX10_mends 12 = .ok (.bipush 50, 2) := by decide +kernel
theorem dX10_mends_14 : decode cX10_mends 14 = .ok (.iconst 5, 1) := by decide +kernel
theorem dX10_mends_15 : decode cX10_mends 15 = .ok (.iload_n 1, 1) := by decide +kernel
theorem dX10_mends_16 : decode cX10_mends 16 = .ok (.imul, 1) := by decide +kernel
theorem dX10_mends_17 : decode cX10_mends 17 = .ok (.iadd, 1) := by decide +kernel
theorem dX10_mends_18 : decode cX10_mends 18 = .ok (.iconst 4, 1) := by decide +kernel
theorem dX10_mends_19 : decode cX10_mends 19 = .ok (.iadd, 1) := by decide +kernel
theorem dX10_mends_20 : decode cX10_mends 20 = .ok (.iconst 0, 1) := by decide +kernel
theorem dX10_mends_21 : decode cX10_mends 21 = .ok (.invokevirtual 136, 3) := by decide +kernel
theorem dX10_mends_24 : decode cX10_mends 24 = .ok (.iconst 1, 1) := by decide +kernel
theorem dX10_mends_25 : decode cX10_mends 25 = .ok (.if_icmp .ne 7, 3) := by decide +kernel
theorem dX10_mends_28 : decode cX10_mends 28 = .ok (.iconst 1, 1) := by decide +kernel
theorem dX10_mends_29 : decode cX10_mends 29 = .ok (.goto 5, 3) := by decide +kernel
theorem dX10_mends_32 : decode cX10_mends 32 = .ok (.ldc 158, 2) := by decide +kernel
theorem dX10_mends_34 : decode cX10_mends 34 = .ok (.ireturn, 1) := by decide +kernel
theorem dX10_rule_0 : decode cX10_rule 0 = .ok (.iload_n 1, 1) := by decide +kernel
theorem dX10_rule_1 : decode cX10_rule 1 = .ok (.i2l, 1) := by decide +kernel
theorem dX10_rule_2 : decode cX10_rule 2 = .ok (.lconst 0, 1) := by decide +kernel
theorem dX10_rule_3 : decode cX10_rule 3 = .ok (.lconst 1, 1) := by decide +kernel
theorem dX10_rule_4 : decode cX10_rule 4 = .ok (.invokestatic 71, 3) := by decide +kernel
theorem dX10_rule_7 : decode cX10_rule 7 = .ok (.ifCond .eq 27, 3) := by decide +kernel
theorem dX10_rule_10 : decode cX10_rule 10 = .ok (.iload_n 2, 1) := by decide +kernel
theorem dX10_rule_11 : decode cX10_rule 11 = .ok (.i2l, 1) := by decide +kernel
theorem dX10_rule_12 : decode cX10_rule 12 = .ok (.lconst 0, 1) := by decide +kernel
theorem dX10_rule_13 : decode cX10_rule 13 = .ok (.ldc2_w 159, 3) := by decide +kernel
theorem dX10_rule_16 : decode cX10_rule 16 = .ok (.invokestatic 71, 3) := by decide +kernel
theorem dX10_rule_19 : decode cX10_rule 19 = .ok (.ifCond .eq 15, 3) := by decide +kernel
theorem dX10_rule_22 : decode cX10_rule 22 = .ok (.aload_n 0, 1) := by decide +kernel
theorem dX10_rule_23 : decode cX10_rule 23 = .ok (.bipush 6, 2) := by decide +kernel
theorem dX10_rule_25 : decode cX10_rule 25 = .ok (.iload_n 1, 1) := by decide +kernel
theorem dX10_rule_26 : decode cX10_rule 26 = .ok (.iadd, 1) := by decide +kernel
theorem dX10_rule_27 : decode cX10_rule 27 = .ok (.iload_n 2, 1) := by decide +kernel
theorem dX10_rule_28 : decode cX10_rule 28 = .ok (.invokevirtual 136, 3) := by decide +kernel
theorem dX10_rule_31 : decode cX10_rule 31 = .ok (.goto 5, 3) := by decide +kernel
theorem dX10_rule_34 : decode cX10_rule 34 = .ok (.ldc 93, 2) := by decide +kernel
theorem dX10_rule_36 : decode cX10_rule 36 = .ok (.ireturn, 1) := by decide +kernel
theorem dX10_at_0 : decode cX10_at 0 = .ok (.iload_n 1, 1) := by decide +kernel
theorem dX10_at_1 : decode cX10_at 1 = .ok (.invokestatic 86, 3) := by decide +kernel
theorem dX10_at_4 : decode cX10_at 4 = .ok (.ifCond .ne 6, 3) := by decide +kernel
theorem dX10_at_7 : decode cX10_at 7 = .ok (.ldc 93, 2) := by decide +kernel
theorem dX10_at_9 : decode cX10_at 9 = .ok (.ireturn, 1) := by decide +kernel
theorem dX10_at_10 : decode cX10_at 10 = .ok (.iconst 0, 1) := by decide +kernel
theorem dX10_at_11 : decode cX10_at 11 = .ok (.istore_n 2, 1) := by decide +kernel
theorem dX10_at_12 : decode cX10_at 12 = .ok (.iconst 0, 1) := by decide +kernel
theorem dX10_at_13 : decode cX10_at 13 = .ok (.istore_n 3, 1) := by decide +kernel
theorem dX10_at_14 : decode cX10_at 14 = .ok (.iload_n 3, 1) := by decide +kernel
theorem dX10_at_15 : decode cX10_at 15 = .ok (.aload_n 0, 1) := by decide +kernel
theorem dX10_at_16 : decode cX10_at 16 = .ok (.getfield 7, 3) := by decide +kernel
theorem dX10_at_19 : decode cX10_at 19 = .ok (.iconst 0, 1) := by decide +kernel
theorem dX10_at_20 : decode cX10_at 20 = .ok (.iaload, 1) := by decide +kernel
theorem dX10_at_21 : decode cX10_at 21 = .ok (.if_icmp .ge 29, 3) := by decide +kernel
theorem dX10_at_24 : decode cX10_at 24 = .ok (.iload_n 2, 1) := by decide +kernel
theorem dX10_at_25 : decode cX10_at 25 = .ok (.aload_n 0, 1) := by decide +kernel
theorem dX10_at_26 : decode cX10_at 26 = .ok (.iload_n 3, 1) := by decide +kernel
theorem dX10_at_27 : decode cX10_at 27 = .ok (.iconst 1, 1) := by decide +kernel
theorem dX10_at_28 : decode cX10_at 28 = .ok (.invokevirtual 114, 3) := by decide +kernel
theorem dX10_at_31 : decode cX10_at 31 = .ok (.iload_n 1, 1) := by decide +kernel
theorem dX10_at_32 : decode cX10_at 32 = .ok (.if_icmp .ne 9, 3) := by decide +kernel
theorem dX10_at_35 : decode cX10_at 35 = .ok (.iconst 1, 1) := by decide +kernel
theorem dX10_at_36 : decode cX10_at 36 = .ok (.iload_n 3, 1) := by decide +kernel
theorem dX10_at_37 : decode cX10_at 37 = .ok (.ishl, 1) := by decide +kernel
theorem dX10_at_38 : decode cX10_at 38 = .ok (.goto 4, 3) := by decide +kernel
theorem dX10_at_41 : decode cX10_at 41 = .ok (.iconst 0, 1) := by decide +kernel
theorem dX10_at_42 : decode cX10_at 42 = .ok (.ior, 1) := by decide +kernel
theorem dX10_at_43 : decode cX10_at 43 = .ok (.istore_n 2, 1) := by decide +kernel
theorem dX10_at_44 : decode cX10_at 44 = .ok (.iinc 3 1, 3) := by decide +kernel
theorem dX10_at_47 : decode cX10_at 47 = .ok (.goto (-33), 3) := by decide +kernel
theorem dX10_at_50 : decode cX10_at 50 = .ok (.iload_n 2, 1) := by decide +kernel
theorem dX10_at_51 : decode cX10_at 51 = .ok (.ireturn, 1) := by decide +kernel
theorem dX10_deal_0 : decode cX10_deal 0 = .ok (.iload_n 1, 1) := by decide +kernel
theorem dX10_deal_1 : decode cX10_deal 1 = .ok (.i2l, 1) := by decide +kernel
theorem dX10_deal_2 : decode cX10_deal 2 = .ok (.lconst 1, 1) := by decide +kernel
theorem dX10_deal_3 : decode cX10_deal 3 = .ok (.ldc2_w 123, 3) := by decide +kernel
theorem dX10_deal_6 : decode cX10_deal 6 = .ok (.invokestatic 71, 3) := by decide +kernel
theorem dX10_deal_9 : decode cX10_deal 9 = .ok (.ifCond .ne 6, 3) := by decide +kernel
theorem dX10_deal_12 : decode cX10_deal 12 = .ok (.ldc 93, 2) := by decide +kernel
theorem dX10_deal_14 : decode cX10_deal 14 = .ok (.ireturn, 1) := by decide +kernel
theorem dX10_deal_15 : decode cX10_deal 15 = .ok (.iconst 0, 1) := by decide +kernel
theorem dX10_deal_16 : decode cX10_deal 16 = .ok (.istore_n 2, 1) := by decide +kernel
theorem dX10_deal_17 : decode cX10_deal 17 = .ok (.iload_n 2, 1) := by decide +kernel
theorem dX10_deal_18 : decode cX10_deal 18 = .ok (.iload_n 1, 1) := by decide +kernel
theorem dX10_deal_19 : decode cX10_deal 19 = .ok (.if_icmp .ge 73, 3) := by decide +kernel
theorem dX10_deal_22 : decode cX10_deal 22 = .ok (.aload_n 0, 1) := by decide +kernel
theorem dX10_deal_23 : decode cX10_deal 23 = .ok (.getfield 7, 3) := by decide +kernel
theorem dX10_deal_26 : decode cX10_deal 26 = .ok (.iconst 0, 1) := by decide +kernel
theorem dX10_deal_27 : decode cX10_deal 27 = .ok (.iaload, 1) := by decide +kernel
theorem dX10_deal_28 : decode cX10_deal 28 = .ok (.bipush 8, 2) := by decide +kernel
theorem dX10_deal_30 : decode cX10_deal 30 = .ok (.if_icmp .ge 62, 3) := by decide +kernel
theorem dX10_deal_33 : decode cX10_deal 33 = .ok (.aload_n 0, 1) := by decide +kernel
theorem dX10_deal_34 : decode cX10_deal 34 = .ok (.invokevirtual 161, 3) := by decide +kernel
theorem dX10_deal_37 : decode cX10_deal 37 = .ok (.bipush 6, 2) := by decide +kernel
theorem dX10_deal_39 : decode cX10_deal 39 = .ok (.irem, 1) := by decide +kernel
theorem dX10_deal_40 : decode cX10_deal 40 = .ok (.istore_n 3, 1) := by decide +kernel
theorem dX10_deal_41 : decode cX10_deal 41 = .ok (.aload_n 0, 1) := by decide +kernel
theorem dX10_deal_42 : decode cX10_deal 42 = .ok (.invokevirtual 161, 3) := by decide +kernel
theorem dX10_deal_45 : decode cX10_deal 45 = .ok (.bipush 8, 2) := by decide +kernel
theorem dX10_deal_47 : decode cX10_deal 47 = .ok (.irem, 1) := by decide +kernel
theorem dX10_deal_48 : decode cX10_deal 48 = .ok (.istore 4, 2) := by decide +kernel
theorem dX10_deal_50 : decode cX10_deal 50 = .ok (.aload_n 0, 1) := by decide +kernel
theorem dX10_deal_51 : decode cX10_deal 51 = .ok (.invokevirtual 161, 3) := by decide +kernel
theorem dX10_deal_54 : decode cX10_deal 54 = .ok (.bipush 60, 2) := by decide +kernel
theorem dX10_deal_56 : decode cX10_deal 56 = .ok (.irem, 1) := by decide +kernel
theorem dX10_deal_57 : decode cX10_deal 57 = .ok (.istore 5, 2) := by decide +kernel
theorem dX10_deal_59 : decode cX10_deal 59 = .ok (.aload_n 0, 1) := by decide +kernel
theorem dX10_deal_60 : decode cX10_deal 60 = .ok (.invokevirtual 161, 3) := by decide +kernel
theorem dX10_deal_63 : decode cX10_deal 63 = .ok (.bipush 60, 2) := by decide +kernel
theorem dX10_deal_65 : decode cX10_deal 65 = .ok (.irem, 1) := by decide +kernel
theorem dX10_deal_66 : decode cX10_deal 66 = .ok (.istore 6, 2) := by decide +kernel
theorem dX10_deal_68 : decode cX10_deal 68 = .ok (.aload_n 0, 1) := by decide +kernel
theorem dX10_deal_69 : decode cX10_deal 69 = .ok (.iload_n 3, 1) := by decide +kernel
theorem dX10_deal_70 : decode cX10_deal 70 = .ok (.iload 4, 2) := by decide +kernel
theorem dX10_deal_72 : decode cX10_deal 72 = .ok (.iload 5, 2) := by decide +kernel
theorem dX10_deal_74 : decode cX10_deal 74 = .ok (.iload 6, 2) := by decide +kernel
theorem dX10_deal_76 : decode cX10_deal 76 = .ok (.aload_n 0, 1) := by decide +kernel
theorem dX10_deal_77 : decode cX10_deal 77 = .ok (.invokevirtual 161, 3) := by decide +kernel
theorem dX10_deal_80 : decode cX10_deal 80 = .ok (.bipush 60, 2) := by decide +kernel
theorem dX10_deal_82 : decode cX10_deal 82 = .ok (.irem, 1) := by decide +kernel
theorem dX10_deal_83 : decode cX10_deal 83 = .ok (.invokevirtual 95, 3) := by decide +kernel
theorem dX10_deal_86 : decode cX10_deal 86 = .ok (.iinc 2 1, 3) := by decide +kernel
theorem dX10_deal_89 : decode cX10_deal 89 = .ok (.goto (-72), 3) := by decide +kernel
theorem dX10_deal_92 : decode cX10_deal 92 = .ok (.iload_n 2, 1) := by decide +kernel
theorem dX10_deal_93 : decode cX10_deal 93 = .ok (.ireturn, 1) := by decide +kernel
theorem dX10_seed_0 : decode cX10_seed 0 = .ok (.aload_n 0, 1) := by decide +kernel
theorem dX10_seed_1 : decode cX10_seed 1 = .ok (.bipush 9, 2) := by decide +kernel
theorem dX10_seed_3 : decode cX10_seed 3 = .ok (.iload_n 1, 1) := by decide +kernel
theorem dX10_seed_4 : decode cX10_seed 4 = .ok (.invokevirtual 136, 3) := by decide +kernel
theorem dX10_seed_7 : decode cX10_seed 7 = .ok (.ireturn, 1) := by decide +kernel
theorem dX10_goesThrough_0 : decode cX10_goesThrough 0 = .ok (.aload_n 0, 1) := by decide +kernel
theorem dX10_goesThrough_1 : decode cX10_goesThrough 1 = .ok (.iload_n 2, 1) := by decide +kernel
theorem dX10_goesThrough_2 : decode cX10_goesThrough 2 = .ok (.iconst 2, 1) := by decide +kernel
theorem dX10_goesThrough_3 : decode cX10_goesThrough 3 = .ok (.invokevirtual 147, 3) := by decide +kernel
theorem dX10_goesThrough_6 : decode cX10_goesThrough 6 = .ok (.istore_n 3, 1) := by decide +kernel
theorem dX10_goesThrough_7 : decode cX10_goesThrough 7 = .ok (.aload_n 0, 1) := by decide +kernel
theorem dX10_goesThrough_8 : decode cX10_goesThrough 8 = .ok (.iload_n 1, 1) := by decide +kernel
theorem dX10_goesThrough_9 : decode cX10_goesThrough 9 = .ok (.iconst 2, 1) := by decide +kernel
theorem dX10_goesThrough_10 : decode cX10_goesThrough 10 = .ok (.iload_n 3, 1) := by decide +kernel
theorem dX10_goesThrough_11 : decode cX10_goesThrough 11 = .ok (.iadd, 1) := by decide +kernel
theorem dX10_goesThrough_12 : decode cX10_goesThrough 12 = .ok (.aload_n 0, 1) := by decide +kernel
theorem dX10_goesThrough_13 : decode cX10_goesThrough 13 = .ok (.aload_n 0, 1) := by decide +kernel
theorem dX10_goesThrough_14 : decode cX10_goesThrough 14 = .ok (.iload_n 1, 1) := by decide +kernel
theorem dX10_goesThrough_15 : decode cX10_goesThrough 15 = .ok (.iconst 0, 1) := by decide +kernel
theorem dX10_goesThrough_16 : decode cX10_goesThrough 16 = .ok (.invokevirtual 114, 3) := by decide +kernel
theorem dX10_goesThrough_19 : decode cX10_goesThrough 19 = .ok (.aload_n 0, 1) := by decide +kernel
theorem dX10_goesThrough_20 : decode cX10_goesThrough 20 = .ok (.iload_n 1, 1) := by decide +kernel
theorem dX10_goesThrough_21 : decode cX10_goesThrough 21 = .ok (.iconst 2, 1) := by decide +kernel
theorem dX10_goesThrough_22 : decode cX10_goesThrough 22 = .ok (.iload_n 3, 1) := by decide +kernel
theorem dX10_goesThrough_23 : decode cX10_goesThrough 23 = .ok (.iadd, 1) := by decide +kernel
theorem dX10_goesThrough_24 : decode cX10_goesThrough 24 = .ok (.invokevirtual 114, 3) := by decide +kernel
theorem dX10_goesThrough_27 : decode cX10_goesThrough 27 = .ok (.iload_n 3, 1) := by decide +kernel
theorem dX10_goesThrough_28 : decode cX10_goesThrough 28 = .ok (.invokevirtual 165, 3) := by decide +kernel
theorem dX10_goesThrough_31 : decode cX10_goesThrough 31 = .ok (.invokevirtual 80, 3) := by decide +kernel
theorem dX10_goesThrough_34 : decode cX10_goesThrough 34 = .ok (.aload_n 0, 1) := by decide +kernel
theorem dX10_goesThrough_35 : decode cX10_goesThrough 35 = .ok (.iload_n 1, 1) := by decide +kernel
theorem dX10_goesThrough_36 : decode cX10_goesThrough 36 = .ok (.iconst 1, 1) := by decide +kernel
theorem dX10_goesThrough_37 : decode cX10_goesThrough 37 = .ok (.aload_n 0, 1) := by decide +kernel
theorem dX10_goesThrough_38 : decode cX10_goesThrough 38 = .ok (.iload_n 2, 1) := by decide +kernel
theorem dX10_goesThrough_39 : decode cX10_goesThrough 39 = .ok (.iconst 1, 1) := by decide +kernel
theorem dX10_goesThrough_40 : decode cX10_goesThrough 40 = .ok (.invokevirtual 147, 3) := by decide +kernel
theorem dX10_goesThrough_43 : decode cX10_goesThrough 43 = .ok (.invokevirtual 80, 3) := by decide +kernel
theorem dX10_goesThrough_46 : decode cX10_goesThrough 46 = .ok (.aload_n 0, 1) := by decide +kernel
theorem dX10_goesThrough_47 : decode cX10_goesThrough 47 = .ok (.getfield 7, 3) := by decide +kernel
theorem dX10_goesThrough_50 : decode cX10_goesThrough 50 = .ok (.iconst 3, 1) := by decide +kernel
theorem dX10_goesThrough_51 : decode cX10_goesThrough 51 = .ok (.dup2, 1) := by decide +kernel
theorem dX10_goesThrough_52 : decode cX10_goesThrough 52 = .ok (.iaload, 1) := by decide +kernel
theorem dX10_goesThrough_53 : decode cX10_goesThrough 53 = .ok (.iconst 1, 1) := by decide +kernel
theorem dX10_goesThrough_54 : decode cX10_goesThrough 54 = .ok (.iadd, 1) := by decide +kernel
theorem dX10_goesThrough_55 : decode cX10_goesThrough 55 = .ok (.iastore, 1) := by decide +kernel
theorem dX10_goesThrough_56 : decode cX10_goesThrough 56 = .ok (.return_, 1) := by decide +kernel
theorem dX10_passes_0 : decode cX10_passes 0 = .ok (.aload_n 0, 1) := by decide +kernel
theorem dX10_passes_1 : decode cX10_passes 1 = .ok (.iload_n 1, 1) := by decide +kernel
theorem dX10_passes_2 : decode cX10_passes 2 = .ok (.invokevirtual 120, 3) := by decide +kernel
theorem dX10_passes_5 : decode cX10_passes 5 = .ok (.ifCond .eq 11, 3) := by decide +kernel
theorem dX10_passes_8 : decode cX10_passes 8 = .ok (.aload_n 0, 1) := by decide +kernel
theorem dX10_passes_9 : decode cX10_passes 9 = .ok (.iload_n 2, 1) := by decide +kernel
theorem dX10_passes_10 : decode cX10_passes 10 = .ok (.invokevirtual 150, 3) := by decide +kernel
theorem dX10_passes_13 : decode cX10_passes 13 = .ok (.ifCond .ne 6, 3) := by decide +kernel
theorem dX10_passes_16 : decode cX10_passes 16 = .ok (.ldc 93, 2) := by decide +kernel
theorem dX10_passes_18 : decode cX10_passes 18 = .ok (.ireturn, 1) := by decide +kernel
theorem dX10_passes_19 : decode cX10_passes 19 = .ok (.aload_n 0, 1) := by decide +kernel
theorem dX10_passes_20 : decode cX10_passes 20 = .ok (.iload_n 1, 1) := by decide +kernel
theorem dX10_passes_21 : decode cX10_passes 21 = .ok (.iconst 1, 1) := by decide +kernel
theorem dX10_passes_22 : decode cX10_passes 22 = .ok (.invokevirtual 114, 3) := by decide +kernel
theorem dX10_passes_25 : decode cX10_passes 25 = .ok (.aload_n 0, 1) := by decide +kernel
theorem dX10_passes_26 : decode cX10_passes 26 = .ok (.iload_n 2, 1) := by decide +kernel
theorem dX10_passes_27 : decode cX10_passes 27 = .ok (.iconst 0, 1) := by decide +kernel
theorem dX10_passes_28 : decode cX10_passes 28 = .ok (.invokevirtual 147, 3) := by decide +kernel
theorem dX10_passes_31 : decode cX10_passes 31 = .ok (.if_icmp .ne 12, 3) := by decide +kernel
theorem dX10_passes_34 : decode cX10_passes 34 = .ok (.aload_n 0, 1) := by decide +kernel
theorem dX10_passes_35 : decode cX10_passes 35 = .ok (.iload_n 2, 1) := by decide +kernel
theorem dX10_passes_36 : decode cX10_passes 36 = .ok (.iload_n 1, 1) := by decide +kernel
theorem dX10_passes_37 : decode cX10_passes 37 = .ok (.invokevirtual 153, 3) := by decide +kernel
theorem dX10_passes_40 : decode cX10_passes 40 = .ok (.ifCond .ne 6, 3) := by decide +kernel
theorem dX10_passes_43 : decode cX10_passes 43 = .ok (.ldc 158, 2) := by decide +kernel
theorem dX10_passes_45 : decode cX10_passes 45 = .ok (.ireturn, 1) := by decide +kernel
theorem dX10_passes_46 : decode cX10_passes 46 = .ok (.aload_n 0, 1) := by decide +kernel
theorem dX10_passes_47 : decode cX10_passes 47 = .ok (.iload_n 1, 1) := by decide +kernel
theorem dX10_passes_48 : decode cX10_passes 48 = .ok (.iload_n 2, 1) := by decide +kernel
theorem dX10_passes_49 : decode cX10_passes 49 = .ok (.invokevirtual 168, 3) := by decide +kernel
theorem dX10_passes_52 : decode cX10_passes 52 = .ok (.aload_n 0, 1) := by decide +kernel
theorem dX10_passes_53 : decode cX10_passes 53 = .ok (.iload_n 1, 1) := by decide +kernel
theorem dX10_passes_54 : decode cX10_passes 54 = .ok (.iconst 1, 1) := by decide +kernel
theorem dX10_passes_55 : decode cX10_passes 55 = .ok (.invokevirtual 114, 3) := by decide +kernel
theorem dX10_passes_58 : decode cX10_passes 58 = .ok (.ireturn, 1) := by decide +kernel
theorem dX10_tries_0 : decode cX10_tries 0 = .ok (.iconst 0, 1) := by decide +kernel
theorem dX10_tries_1 : decode cX10_tries 1 = .ok (.istore_n 2, 1) := by decide +kernel
theorem dX10_tries_2 : decode cX10_tries 2 = .ok (.iload_n 2, 1) := by decide +kernel
theorem dX10_tries_3 : decode cX10_tries 3 = .ok (.aload_n 0, 1) := by decide +kernel
theorem dX10_tries_4 : decode cX10_tries 4 = .ok (.getfield 7, 3) := by decide +kernel
theorem dX10_tries_7 : decode cX10_tries 7 = .ok (.bipush 8, 2) := by decide +kernel
theorem dX10_tries_9 : decode cX10_tries 9 = .ok (.iaload, 1) := by decide +kernel
theorem dX10_tries_10 : decode cX10_tries 10 = .ok (.if_icmp .ge 34, 3) := by decide +kernel
theorem dX10_tries_13 : decode cX10_tries 13 = .ok (.aload_n 0, 1) := by decide +kernel
theorem dX10_tries_14 : decode cX10_tries 14 = .ok (.iload_n 2, 1) := by decide +kernel
theorem dX10_tries_15 : decode cX10_tries 15 = .ok (.iconst 0, 1) := by decide +kernel
theorem dX10_tries_16 : decode cX10_tries 16 = .ok (.invokevirtual 147, 3) := by decide +kernel
theorem dX10_tries_19 : decode cX10_tries 19 = .ok (.aload_n 0, 1) := by decide +kernel
theorem dX10_tries_20 : decode cX10_tries 20 = .ok (.iload_n 1, 1) := by decide +kernel
theorem dX10_tries_21 : decode cX10_tries 21 = .ok (.iconst 1, 1) := by decide +kernel
theorem dX10_tries_22 : decode cX10_tries 22 = .ok (.invokevirtual 114, 3) := by decide +kernel
theorem dX10_tries_25 : decode cX10_tries 25 = .ok (.if_icmp .ne 13, 3) := by decide +kernel
theorem dX10_tries_28 : decode cX10_tries 28 = .ok (.aload_n 0, 1) := by decide +kernel
theorem dX10_tries_29 : decode cX10_tries 29 = .ok (.iload_n 2, 1) := by decide +kernel
theorem dX10_tries_30 : decode cX10_tries 30 = .ok (.iconst 4, 1) := by decide +kernel
theorem dX10_tries_31 : decode cX10_tries 31 = .ok (.invokevirtual 147, 3) := by decide +kernel
theorem dX10_tries_34 : decode cX10_tries 34 = .ok (.iconst 1, 1) := by decide +kernel
theorem dX10_tries_35 : decode cX10_tries 35 = .ok (.if_icmp .ne 9, 3) := by decide +kernel
theorem dX10_tries_38 : decode cX10_tries 38 = .ok (.iinc 2 1, 3) := by decide +kernel
theorem dX10_tries_41 : decode cX10_tries 41 = .ok (.goto (-39), 3) := by decide +kernel
theorem dX10_tries_44 : decode cX10_tries 44 = .ok (.iload_n 2, 1) := by decide +kernel
theorem dX10_tries_45 : decode cX10_tries 45 = .ok (.aload_n 0, 1) := by decide +kernel
theorem dX10_tries_46 : decode cX10_tries 46 = .ok (.getfield 7, 3) := by decide +kernel
theorem dX10_tries_49 : decode cX10_tries 49 = .ok (.bipush 8, 2) := by decide +kernel
theorem dX10_tries_51 : decode cX10_tries 51 = .ok (.iaload, 1) := by decide +kernel
theorem dX10_tries_52 : decode cX10_tries 52 = .ok (.if_icmp .ge 39, 3) := by decide +kernel
theorem dX10_tries_55 : decode cX10_tries 55 = .ok (.aload_n 0, 1) := by decide +kernel
theorem dX10_tries_56 : decode cX10_tries 56 = .ok (.invokevirtual 161, 3) := by decide +kernel
theorem dX10_tries_59 : decode cX10_tries 59 = .ok (.bipush 100, 2) := by decide +kernel
theorem dX10_tries_61 : decode cX10_tries 61 = .ok (.irem, 1) := by decide +kernel
theorem dX10_tries_62 : decode cX10_tries 62 = .ok (.bipush 30, 2) := by decide +kernel
theorem dX10_tries_64 : decode cX10_tries 64 = .ok (.if_icmp .ge 27, 3) := by decide +kernel
theorem dX10_tries_67 : decode cX10_tries 67 = .ok (.aload_n 0, 1) := by decide +kernel
theorem dX10_tries_68 : decode cX10_tries 68 = .ok (.getfield 7, 3) := by decide +kernel
theorem dX10_tries_71 : decode cX10_tries 71 = .ok (.bipush 50, 2) := by decide +kernel
theorem dX10_tries_73 : decode cX10_tries 73 = .ok (.iconst 5, 1) := by decide +kernel
theorem dX10_tries_74 : decode cX10_tries 74 = .ok (.iload_n 2, 1) := by decide +kernel
theorem dX10_tries_75 : decode cX10_tries 75 = .ok (.imul, 1) := by decide +kernel
theorem dX10_tries_76 : decode cX10_tries 76 = .ok (.iadd, 1) := by decide +kernel
theorem dX10_tries_77 : decode cX10_tries 77 = .ok (.iconst 4, 1) := by decide +kernel
theorem dX10_tries_78 : decode cX10_tries 78 = .ok (.iadd, 1) := by decide +kernel
theorem dX10_tries_79 : decode cX10_tries 79 = .ok (.iconst 1, 1) := by decide +kernel
theorem dX10_tries_80 : decode cX10_tries 80 = .ok (.iastore, 1) := by decide +kernel
theorem dX10_tries_81 : decode cX10_tries 81 = .ok (.aload_n 0, 1) := by decide +kernel
theorem dX10_tries_82 : decode cX10_tries 82 = .ok (.getfield 7, 3) := by decide +kernel
theorem dX10_tries_85 : decode cX10_tries 85 = .ok (.iconst 5, 1) := by decide +kernel
theorem dX10_tries_86 : decode cX10_tries 86 = .ok (.dup2, 1) := by decide +kernel
theorem dX10_tries_87 : decode cX10_tries 87 = .ok (.iaload, 1) := by decide +kernel
theorem dX10_tries_88 : decode cX10_tries 88 = .ok (.iconst 1, 1) := by decide +kernel
theorem dX10_tries_89 : decode cX10_tries 89 = .ok (.iadd, 1) := by decide +kernel
theorem dX10_tries_90 : decode cX10_tries 90 = .ok (.iastore, 1) := by decide +kernel
theorem dX10_tries_91 : decode cX10_tries 91 = .ok (.return_, 1) := by decide +kernel
theorem dX10_more_0 : decode cX10_more 0 = .ok (.aload_n 0, 1) := by decide +kernel
theorem dX10_more_1 : decode cX10_more 1 = .ok (.iload_n 1, 1) := by decide +kernel
theorem dX10_more_2 : decode cX10_more 2 = .ok (.iconst 2, 1) := by decide +kernel
theorem dX10_more_3 : decode cX10_more 3 = .ok (.iload_n 2, 1) := by decide +kernel
theorem dX10_more_4 : decode cX10_more 4 = .ok (.iadd, 1) := by decide +kernel
theorem dX10_more_5 : decode cX10_more 5 = .ok (.aload_n 0, 1) := by decide +kernel
theorem dX10_more_6 : decode cX10_more 6 = .ok (.iload_n 1, 1) := by decide +kernel
