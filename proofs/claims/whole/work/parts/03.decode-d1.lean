theorem dX10_more_7 : decode cX10_more 7 = .ok (.iconst 2, 1) := by decide +kernel
theorem dX10_more_8 : decode cX10_more 8 = .ok (.iload_n 2, 1) := by decide +kernel
theorem dX10_more_9 : decode cX10_more 9 = .ok (.iadd, 1) := by decide +kernel
theorem dX10_more_10 : decode cX10_more 10 = .ok (.invokevirtual 114, 3) := by decide +kernel
theorem dX10_more_13 : decode cX10_more 13 = .ok (.iload_n 3, 1) := by decide +kernel
theorem dX10_more_14 : decode cX10_more 14 = .ok (.iadd, 1) := by decide +kernel
theorem dX10_more_15 : decode cX10_more 15 = .ok (.bipush 99, 2) := by decide +kernel
theorem dX10_more_17 : decode cX10_more 17 = .ok (.invokestatic 106, 3) := by decide +kernel
theorem dX10_more_20 : decode cX10_more 20 = .ok (.invokevirtual 80, 3) := by decide +kernel
theorem dX10_more_23 : decode cX10_more 23 = .ok (.return_, 1) := by decide +kernel
theorem dX10_halves_0 : decode cX10_halves 0 = .ok (.iconst 0, 1) := by decide +kernel
theorem dX10_halves_1 : decode cX10_halves 1 = .ok (.istore_n 2, 1) := by decide +kernel
theorem dX10_halves_2 : decode cX10_halves 2 = .ok (.iload_n 2, 1) := by decide +kernel
theorem dX10_halves_3 : decode cX10_halves 3 = .ok (.iconst 3, 1) := by decide +kernel
theorem dX10_halves_4 : decode cX10_halves 4 = .ok (.if_icmp .ge 27, 3) := by decide +kernel
theorem dX10_halves_7 : decode cX10_halves 7 = .ok (.aload_n 0, 1) := by decide +kernel
theorem dX10_halves_8 : decode cX10_halves 8 = .ok (.iload_n 1, 1) := by decide +kernel
theorem dX10_halves_9 : decode cX10_halves 9 = .ok (.iconst 2, 1) := by decide +kernel
theorem dX10_halves_10 : decode cX10_halves 10 = .ok (.iload_n 2, 1) := by decide +kernel
theorem dX10_halves_11 : decode cX10_halves 11 = .ok (.iadd, 1) := by decide +kernel
theorem dX10_halves_12 : decode cX10_halves 12 = .ok (.aload_n 0, 1) := by decide +kernel
theorem dX10_halves_13 : decode cX10_halves 13 = .ok (.iload_n 1, 1) := by decide +kernel
theorem dX10_halves_14 : decode cX10_halves 14 = .ok (.iconst 2, 1) := by decide +kernel
theorem dX10_halves_15 : decode cX10_halves 15 = .ok (.iload_n 2, 1) := by decide +kernel
theorem dX10_halves_16 : decode cX10_halves 16 = .ok (.iadd, 1) := by decide +kernel
theorem dX10_halves_17 : decode cX10_halves 17 = .ok (.invokevirtual 114, 3) := by decide +kernel
theorem dX10_halves_20 : decode cX10_halves 20 = .ok (.iconst 2, 1) := by decide +kernel
theorem dX10_halves_21 : decode cX10_halves 21 = .ok (.idiv, 1) := by decide +kernel
theorem dX10_halves_22 : decode cX10_halves 22 = .ok (.invokevirtual 80, 3) := by decide +kernel
theorem dX10_halves_25 : decode cX10_halves 25 = .ok (.iinc 2 1, 3) := by decide +kernel
theorem dX10_halves_28 : decode cX10_halves 28 = .ok (.goto (-26), 3) := by decide +kernel
theorem dX10_halves_31 : decode cX10_halves 31 = .ok (.return_, 1) := by decide +kernel
theorem dX10_goesOn_0 : decode cX10_goesOn 0 = .ok (.iconst 0, 1) := by decide +kernel
theorem dX10_goesOn_1 : decode cX10_goesOn 1 = .ok (.istore_n 1, 1) := by decide +kernel
theorem dX10_goesOn_2 : decode cX10_goesOn 2 = .ok (.iload_n 1, 1) := by decide +kernel
theorem dX10_goesOn_3 : decode cX10_goesOn 3 = .ok (.aload_n 0, 1) := by decide +kernel
theorem dX10_goesOn_4 : decode cX10_goesOn 4 = .ok (.getfield 7, 3) := by decide +kernel
theorem dX10_goesOn_7 : decode cX10_goesOn 7 = .ok (.iconst 0, 1) := by decide +kernel
theorem dX10_goesOn_8 : decode cX10_goesOn 8 = .ok (.iaload, 1) := by decide +kernel
theorem dX10_goesOn_9 : decode cX10_goesOn 9 = .ok (.if_icmp .ge 111, 3) := by decide +kernel
theorem dX10_goesOn_12 : decode cX10_goesOn 12 = .ok (.aload_n 0, 1) := by decide +kernel
theorem dX10_goesOn_13 : decode cX10_goesOn 13 = .ok (.iload_n 1, 1) := by decide +kernel
theorem dX10_goesOn_14 : decode cX10_goesOn 14 = .ok (.iconst 0, 1) := by decide +kernel
theorem dX10_goesOn_15 : decode cX10_goesOn 15 = .ok (.invokevirtual 114, 3) := by decide +kernel
theorem dX10_goesOn_18 : decode cX10_goesOn 18 = .ok (.iconst 5, 1) := by decide +kernel
theorem dX10_goesOn_19 : decode cX10_goesOn 19 = .ok (.if_icmp .ne 8, 3) := by decide +kernel
theorem dX10_goesOn_22 : decode cX10_goesOn 22 = .ok (.aload_n 0, 1) := by decide +kernel
theorem dX10_goesOn_23 : decode cX10_goesOn 23 = .ok (.iload_n 1, 1) := by decide +kernel
theorem dX10_goesOn_24 : decode cX10_goesOn 24 = .ok (.invokevirtual 172, 3) := by decide +kernel
theorem dX10_goesOn_27 : decode cX10_goesOn 27 = .ok (.iconst 0, 1) := by decide +kernel
theorem dX10_goesOn_28 : decode cX10_goesOn 28 = .ok (.istore_n 2, 1) := by decide +kernel
theorem dX10_goesOn_29 : decode cX10_goesOn 29 = .ok (.iload_n 2, 1) := by decide +kernel
theorem dX10_goesOn_30 : decode cX10_goesOn 30 = .ok (.aload_n 0, 1) := by decide +kernel
theorem dX10_goesOn_31 : decode cX10_goesOn 31 = .ok (.getfield 7, 3) := by decide +kernel
theorem dX10_goesOn_34 : decode cX10_goesOn 34 = .ok (.bipush 8, 2) := by decide +kernel
theorem dX10_goesOn_36 : decode cX10_goesOn 36 = .ok (.iaload, 1) := by decide +kernel
theorem dX10_goesOn_37 : decode cX10_goesOn 37 = .ok (.if_icmp .ge 33, 3) := by decide +kernel
theorem dX10_goesOn_40 : decode cX10_goesOn 40 = .ok (.aload_n 0, 1) := by decide +kernel
theorem dX10_goesOn_41 : decode cX10_goesOn 41 = .ok (.iload_n 2, 1) := by decide +kernel
theorem dX10_goesOn_42 : decode cX10_goesOn 42 = .ok (.iconst 0, 1) := by decide +kernel
theorem dX10_goesOn_43 : decode cX10_goesOn 43 = .ok (.invokevirtual 147, 3) := by decide +kernel
theorem dX10_goesOn_46 : decode cX10_goesOn 46 = .ok (.aload_n 0, 1) := by decide +kernel
theorem dX10_goesOn_47 : decode cX10_goesOn 47 = .ok (.iload_n 1, 1) := by decide +kernel
theorem dX10_goesOn_48 : decode cX10_goesOn 48 = .ok (.iconst 1, 1) := by decide +kernel
theorem dX10_goesOn_49 : decode cX10_goesOn 49 = .ok (.invokevirtual 114, 3) := by decide +kernel
theorem dX10_goesOn_52 : decode cX10_goesOn 52 = .ok (.if_icmp .ne 12, 3) := by decide +kernel
theorem dX10_goesOn_55 : decode cX10_goesOn 55 = .ok (.aload_n 0, 1) := by decide +kernel
theorem dX10_goesOn_56 : decode cX10_goesOn 56 = .ok (.iload_n 2, 1) := by decide +kernel
theorem dX10_goesOn_57 : decode cX10_goesOn 57 = .ok (.iload_n 1, 1) := by decide +kernel
theorem dX10_goesOn_58 : decode cX10_goesOn 58 = .ok (.invokevirtual 153, 3) := by decide +kernel
theorem dX10_goesOn_61 : decode cX10_goesOn 61 = .ok (.ifCond .ne 9, 3) := by decide +kernel
theorem dX10_goesOn_64 : decode cX10_goesOn 64 = .ok (.iinc 2 1, 3) := by decide +kernel
theorem dX10_goesOn_67 : decode cX10_goesOn 67 = .ok (.goto (-38), 3) := by decide +kernel
theorem dX10_goesOn_70 : decode cX10_goesOn 70 = .ok (.iload_n 2, 1) := by decide +kernel
theorem dX10_goesOn_71 : decode cX10_goesOn 71 = .ok (.aload_n 0, 1) := by decide +kernel
theorem dX10_goesOn_72 : decode cX10_goesOn 72 = .ok (.getfield 7, 3) := by decide +kernel
theorem dX10_goesOn_75 : decode cX10_goesOn 75 = .ok (.bipush 8, 2) := by decide +kernel
theorem dX10_goesOn_77 : decode cX10_goesOn 77 = .ok (.iaload, 1) := by decide +kernel
theorem dX10_goesOn_78 : decode cX10_goesOn 78 = .ok (.if_icmp .ge 12, 3) := by decide +kernel
theorem dX10_goesOn_81 : decode cX10_goesOn 81 = .ok (.aload_n 0, 1) := by decide +kernel
theorem dX10_goesOn_82 : decode cX10_goesOn 82 = .ok (.iload_n 1, 1) := by decide +kernel
theorem dX10_goesOn_83 : decode cX10_goesOn 83 = .ok (.iload_n 2, 1) := by decide +kernel
theorem dX10_goesOn_84 : decode cX10_goesOn 84 = .ok (.invokevirtual 168, 3) := by decide +kernel
theorem dX10_goesOn_87 : decode cX10_goesOn 87 = .ok (.goto 27, 3) := by decide +kernel
theorem dX10_goesOn_90 : decode cX10_goesOn 90 = .ok (.aload_n 0, 1) := by decide +kernel
theorem dX10_goesOn_91 : decode cX10_goesOn 91 = .ok (.getfield 7, 3) := by decide +kernel
theorem dX10_goesOn_94 : decode cX10_goesOn 94 = .ok (.iconst 4, 1) := by decide +kernel
theorem dX10_goesOn_95 : decode cX10_goesOn 95 = .ok (.dup2, 1) := by decide +kernel
theorem dX10_goesOn_96 : decode cX10_goesOn 96 = .ok (.iaload, 1) := by decide +kernel
theorem dX10_goesOn_97 : decode cX10_goesOn 97 = .ok (.iconst 1, 1) := by decide +kernel
theorem dX10_goesOn_98 : decode cX10_goesOn 98 = .ok (.iadd, 1) := by decide +kernel
theorem dX10_goesOn_99 : decode cX10_goesOn 99 = .ok (.iastore, 1) := by decide +kernel
theorem dX10_goesOn_100 : decode cX10_goesOn 100 = .ok (.aload_n 0, 1) := by decide +kernel
theorem dX10_goesOn_101 : decode cX10_goesOn 101 = .ok (.iload_n 1, 1) := by decide +kernel
theorem dX10_goesOn_102 : decode cX10_goesOn 102 = .ok (.aload_n 0, 1) := by decide +kernel
theorem dX10_goesOn_103 : decode cX10_goesOn 103 = .ok (.getfield 7, 3) := by decide +kernel
theorem dX10_goesOn_106 : decode cX10_goesOn 106 = .ok (.iconst 2, 1) := by decide +kernel
theorem dX10_goesOn_107 : decode cX10_goesOn 107 = .ok (.iaload, 1) := by decide +kernel
theorem dX10_goesOn_108 : decode cX10_goesOn 108 = .ok (.iconst 3, 1) := by decide +kernel
theorem dX10_goesOn_109 : decode cX10_goesOn 109 = .ok (.irem, 1) := by decide +kernel
theorem dX10_goesOn_110 : decode cX10_goesOn 110 = .ok (.iconst 1, 1) := by decide +kernel
theorem dX10_goesOn_111 : decode cX10_goesOn 111 = .ok (.invokevirtual 176, 3) := by decide +kernel
theorem dX10_goesOn_114 : decode cX10_goesOn 114 = .ok (.iinc 1 1, 3) := by decide +kernel
theorem dX10_goesOn_117 : decode cX10_goesOn 117 = .ok (.goto (-115), 3) := by decide +kernel
theorem dX10_goesOn_120 : decode cX10_goesOn 120 = .ok (.aload_n 0, 1) := by decide +kernel
theorem dX10_goesOn_121 : decode cX10_goesOn 121 = .ok (.invokevirtual 161, 3) := by decide +kernel
theorem dX10_goesOn_124 : decode cX10_goesOn 124 = .ok (.bipush 100, 2) := by decide +kernel
theorem dX10_goesOn_126 : decode cX10_goesOn 126 = .ok (.irem, 1) := by decide +kernel
theorem dX10_goesOn_127 : decode cX10_goesOn 127 = .ok (.aload_n 0, 1) := by decide +kernel
theorem dX10_goesOn_128 : decode cX10_goesOn 128 = .ok (.getfield 7, 3) := by decide +kernel
theorem dX10_goesOn_131 : decode cX10_goesOn 131 = .ok (.bipush 6, 2) := by decide +kernel
theorem dX10_goesOn_133 : decode cX10_goesOn 133 = .ok (.iaload, 1) := by decide +kernel
theorem dX10_goesOn_134 : decode cX10_goesOn 134 = .ok (.if_icmp .ge 37, 3) := by decide +kernel
theorem dX10_goesOn_137 : decode cX10_goesOn 137 = .ok (.aload_n 0, 1) := by decide +kernel
theorem dX10_goesOn_138 : decode cX10_goesOn 138 = .ok (.getfield 7, 3) := by decide +kernel
theorem dX10_goesOn_141 : decode cX10_goesOn 141 = .ok (.iconst 0, 1) := by decide +kernel
theorem dX10_goesOn_142 : decode cX10_goesOn 142 = .ok (.iaload, 1) := by decide +kernel
theorem dX10_goesOn_143 : decode cX10_goesOn 143 = .ok (.ifCond .le 28, 3) := by decide +kernel
theorem dX10_goesOn_146 : decode cX10_goesOn 146 = .ok (.aload_n 0, 1) := by decide +kernel
theorem dX10_goesOn_147 : decode cX10_goesOn 147 = .ok (.invokevirtual 161, 3) := by decide +kernel
theorem dX10_goesOn_150 : decode cX10_goesOn 150 = .ok (.aload_n 0, 1) := by decide +kernel
theorem dX10_goesOn_151 : decode cX10_goesOn 151 = .ok (.getfield 7, 3) := by decide +kernel
theorem dX10_goesOn_154 : decode cX10_goesOn 154 = .ok (.iconst 0, 1) := by decide +kernel
theorem dX10_goesOn_155 : decode cX10_goesOn 155 = .ok (.iaload, 1) := by decide +kernel
theorem dX10_goesOn_156 : decode cX10_goesOn 156 = .ok (.irem, 1) := by decide +kernel
theorem dX10_goesOn_157 : decode cX10_goesOn 157 = .ok (.istore_n 1, 1) := by decide +kernel
theorem dX10_goesOn_158 : decode cX10_goesOn 158 = .ok (.aload_n 0, 1) := by decide +kernel
theorem dX10_goesOn_159 : decode cX10_goesOn 159 = .ok (.iload_n 1, 1) := by decide +kernel
theorem dX10_goesOn_160 : decode cX10_goesOn 160 = .ok (.aload_n 0, 1) := by decide +kernel
theorem dX10_goesOn_161 : decode cX10_goesOn 161 = .ok (.invokevirtual 161, 3) := by decide +kernel
theorem dX10_goesOn_164 : decode cX10_goesOn 164 = .ok (.iconst 3, 1) := by decide +kernel
theorem dX10_goesOn_165 : decode cX10_goesOn 165 = .ok (.irem, 1) := by decide +kernel
theorem dX10_goesOn_166 : decode cX10_goesOn 166 = .ok (.bipush 10, 2) := by decide +kernel
theorem dX10_goesOn_168 : decode cX10_goesOn 168 = .ok (.invokevirtual 176, 3) := by decide +kernel
theorem dX10_goesOn_171 : decode cX10_goesOn 171 = .ok (.aload_n 0, 1) := by decide +kernel
theorem dX10_goesOn_172 : decode cX10_goesOn 172 = .ok (.invokevirtual 161, 3) := by decide +kernel
theorem dX10_goesOn_175 : decode cX10_goesOn 175 = .ok (.bipush 100, 2) := by decide +kernel
theorem dX10_goesOn_177 : decode cX10_goesOn 177 = .ok (.irem, 1) := by decide +kernel
theorem dX10_goesOn_178 : decode cX10_goesOn 178 = .ok (.aload_n 0, 1) := by decide +kernel
theorem dX10_goesOn_179 : decode cX10_goesOn 179 = .ok (.getfield 7, 3) := by decide +kernel
theorem dX10_goesOn_182 : decode cX10_goesOn 182 = .ok (.bipush 7, 2) := by decide +kernel
theorem dX10_goesOn_184 : decode cX10_goesOn 184 = .ok (.iaload, 1) := by decide +kernel
theorem dX10_goesOn_185 : decode cX10_goesOn 185 = .ok (.if_icmp .ge 27, 3) := by decide +kernel
theorem dX10_goesOn_188 : decode cX10_goesOn 188 = .ok (.aload_n 0, 1) := by decide +kernel
theorem dX10_goesOn_189 : decode cX10_goesOn 189 = .ok (.getfield 7, 3) := by decide +kernel
theorem dX10_goesOn_192 : decode cX10_goesOn 192 = .ok (.iconst 0, 1) := by decide +kernel
theorem dX10_goesOn_193 : decode cX10_goesOn 193 = .ok (.iaload, 1) := by decide +kernel
theorem dX10_goesOn_194 : decode cX10_goesOn 194 = .ok (.ifCond .le 18, 3) := by decide +kernel
theorem dX10_goesOn_197 : decode cX10_goesOn 197 = .ok (.aload_n 0, 1) := by decide +kernel
theorem dX10_goesOn_198 : decode cX10_goesOn 198 = .ok (.aload_n 0, 1) := by decide +kernel
theorem dX10_goesOn_199 : decode cX10_goesOn 199 = .ok (.invokevirtual 161, 3) := by decide +kernel
theorem dX10_goesOn_202 : decode cX10_goesOn 202 = .ok (.aload_n 0, 1) := by decide +kernel
theorem dX10_goesOn_203 : decode cX10_goesOn 203 = .ok (.getfield 7, 3) := by decide +kernel
theorem dX10_goesOn_206 : decode cX10_goesOn 206 = .ok (.iconst 0, 1) := by decide +kernel
theorem dX10_goesOn_207 : decode cX10_goesOn 207 = .ok (.iaload, 1) := by decide +kernel
theorem dX10_goesOn_208 : decode cX10_goesOn 208 = .ok (.irem, 1) := by decide +kernel
theorem dX10_goesOn_209 : decode cX10_goesOn 209 = .ok (.invokevirtual 179, 3) := by decide +kernel
theorem dX10_goesOn_212 : decode cX10_goesOn 212 = .ok (.iconst 0, 1) := by decide +kernel
theorem dX10_goesOn_213 : decode cX10_goesOn 213 = .ok (.istore_n 1, 1) := by decide +kernel
theorem dX10_goesOn_214 : decode cX10_goesOn 214 = .ok (.iload_n 1, 1) := by decide +kernel
theorem dX10_goesOn_215 : decode cX10_goesOn 215 = .ok (.aload_n 0, 1) := by decide +kernel
theorem dX10_goesOn_216 : decode cX10_goesOn 216 = .ok (.getfield 7, 3) := by decide +kernel
theorem dX10_goesOn_219 : decode cX10_goesOn 219 = .ok (.bipush 8, 2) := by decide +kernel
theorem dX10_goesOn_221 : decode cX10_goesOn 221 = .ok (.iaload, 1) := by decide +kernel
theorem dX10_goesOn_222 : decode cX10_goesOn 222 = .ok (.if_icmp .ge 35, 3) := by decide +kernel
theorem dX10_goesOn_225 : decode cX10_goesOn 225 = .ok (.aload_n 0, 1) := by decide +kernel
theorem dX10_goesOn_226 : decode cX10_goesOn 226 = .ok (.getfield 7, 3) := by decide +kernel
theorem dX10_goesOn_229 : decode cX10_goesOn 229 = .ok (.iconst 2, 1) := by decide +kernel
theorem dX10_goesOn_230 : decode cX10_goesOn 230 = .ok (.iaload, 1) := by decide +kernel
theorem dX10_goesOn_231 : decode cX10_goesOn 231 = .ok (.iconst 5, 1) := by decide +kernel
theorem dX10_goesOn_232 : decode cX10_goesOn 232 = .ok (.irem, 1) := by decide +kernel
theorem dX10_goesOn_233 : decode cX10_goesOn 233 = .ok (.iconst 4, 1) := by decide +kernel
theorem dX10_goesOn_234 : decode cX10_goesOn 234 = .ok (.if_icmp .ne 23, 3) := by decide +kernel
theorem dX10_goesOn_237 : decode cX10_goesOn 237 = .ok (.aload_n 0, 1) := by decide +kernel
theorem dX10_goesOn_238 : decode cX10_goesOn 238 = .ok (.getfield 7, 3) := by decide +kernel
theorem dX10_goesOn_241 : decode cX10_goesOn 241 = .ok (.bipush 50, 2) := by decide +kernel
theorem dX10_goesOn_243 : decode cX10_goesOn 243 = .ok (.iconst 5, 1) := by decide +kernel
theorem dX10_goesOn_244 : decode cX10_goesOn 244 = .ok (.iload_n 1, 1) := by decide +kernel
theorem dX10_goesOn_245 : decode cX10_goesOn 245 = .ok (.imul, 1) := by decide +kernel
theorem dX10_goesOn_246 : decode cX10_goesOn 246 = .ok (.iadd, 1) := by decide +kernel
theorem dX10_goesOn_247 : decode cX10_goesOn 247 = .ok (.iconst 4, 1) := by decide +kernel
theorem dX10_goesOn_248 : decode cX10_goesOn 248 = .ok (.iadd, 1) := by decide +kernel
theorem dX10_goesOn_249 : decode cX10_goesOn 249 = .ok (.iconst 0, 1) := by decide +kernel
theorem dX10_goesOn_250 : decode cX10_goesOn 250 = .ok (.iastore, 1) := by decide +kernel
theorem dX10_goesOn_251 : decode cX10_goesOn 251 = .ok (.iinc 1 1, 3) := by decide +kernel
theorem dX10_goesOn_254 : decode cX10_goesOn 254 = .ok (.goto (-40), 3) := by decide +kernel
theorem dX10_goesOn_257 : decode cX10_goesOn 257 = .ok (.aload_n 0, 1) := by decide +kernel
theorem dX10_goesOn_258 : decode cX10_goesOn 258 = .ok (.getfield 7, 3) := by decide +kernel
theorem dX10_goesOn_261 : decode cX10_goesOn 261 = .ok (.iconst 2, 1) := by decide +kernel
theorem dX10_goesOn_262 : decode cX10_goesOn 262 = .ok (.dup2, 1) := by decide +kernel
theorem dX10_goesOn_263 : decode cX10_goesOn 263 = .ok (.iaload, 1) := by decide +kernel
theorem dX10_goesOn_264 : decode cX10_goesOn 264 = .ok (.iconst 1, 1) := by decide +kernel
theorem dX10_goesOn_265 : decode cX10_goesOn 265 = .ok (.iadd, 1) := by decide +kernel
theorem dX10_goesOn_266 : decode cX10_goesOn 266 = .ok (.iastore, 1) := by decide +kernel
theorem dX10_goesOn_267 : decode cX10_goesOn 267 = .ok (.return_, 1) := by decide +kernel
theorem dX10_goesOnMany_0 : decode cX10_goesOnMany 0 = .ok (.iconst 0, 1) := by decide +kernel
theorem dX10_goesOnMany_1 : decode cX10_goesOnMany 1 = .ok (.istore_n 2, 1) := by decide +kernel
theorem dX10_goesOnMany_2 : decode cX10_goesOnMany 2 = .ok (.iload_n 2, 1) := by decide +kernel
theorem dX10_goesOnMany_3 : decode cX10_goesOnMany 3 = .ok (.iload_n 1, 1) := by decide +kernel
theorem dX10_goesOnMany_4 : decode cX10_goesOnMany 4 = .ok (.if_icmp .ge 13, 3) := by decide +kernel
theorem dX10_goesOnMany_7 : decode cX10_goesOnMany 7 = .ok (.aload_n 0, 1) := by decide +kernel
theorem dX10_goesOnMany_8 : decode cX10_goesOnMany 8 = .ok (.invokevirtual 182, 3) := by decide +kernel
theorem dX10_goesOnMany_11 : decode cX10_goesOnMany 11 = .ok (.iinc 2 1, 3) := by decide +kernel
theorem dX10_goesOnMany_14 : decode cX10_goesOnMany 14 = .ok (.goto (-12), 3) := by decide +kernel
theorem dX10_goesOnMany_17 : decode cX10_goesOnMany 17 = .ok (.return_, 1) := by decide +kernel
theorem dX10_days_0 : decode cX10_days 0 = .ok (.iload_n 1, 1) := by decide +kernel
theorem dX10_days_1 : decode cX10_days 1 = .ok (.i2l, 1) := by decide +kernel
theorem dX10_days_2 : decode cX10_days 2 = .ok (.lconst 1, 1) := by decide +kernel
theorem dX10_days_3 : decode cX10_days 3 = .ok (.ldc2_w 159, 3) := by decide +kernel
theorem dX10_days_6 : decode cX10_days 6 = .ok (.invokestatic 71, 3) := by decide +kernel
theorem dX10_days_9 : decode cX10_days 9 = .ok (.ifCond .ne 6, 3) := by decide +kernel
theorem dX10_days_12 : decode cX10_days 12 = .ok (.ldc 93, 2) := by decide +kernel
theorem dX10_days_14 : decode cX10_days 14 = .ok (.ireturn, 1) := by decide +kernel
theorem dX10_days_15 : decode cX10_days 15 = .ok (.aload_n 0, 1) := by decide +kernel
theorem dX10_days_16 : decode cX10_days 16 = .ok (.getfield 7, 3) := by decide +kernel
theorem dX10_days_19 : decode cX10_days 19 = .ok (.iconst 3, 1) := by decide +kernel
theorem dX10_days_20 : decode cX10_days 20 = .ok (.iaload, 1) := by decide +kernel
theorem dX10_days_21 : decode cX10_days 21 = .ok (.istore_n 2, 1) := by decide +kernel
theorem dX10_days_22 : decode cX10_days 22 = .ok (.sipush 9999, 3) := by decide +kernel
theorem dX10_days_25 : decode cX10_days 25 = .ok (.aload_n 0, 1) := by decide +kernel
theorem dX10_days_26 : decode cX10_days 26 = .ok (.getfield 7, 3) := by decide +kernel
theorem dX10_days_29 : decode cX10_days 29 = .ok (.iconst 2, 1) := by decide +kernel
theorem dX10_days_30 : decode cX10_days 30 = .ok (.iaload, 1) := by decide +kernel
theorem dX10_days_31 : decode cX10_days 31 = .ok (.isub, 1) := by decide +kernel
theorem dX10_days_32 : decode cX10_days 32 = .ok (.istore_n 3, 1) := by decide +kernel
theorem dX10_days_33 : decode cX10_days 33 = .ok (.aload_n 0, 1) := by decide +kernel
theorem dX10_days_34 : decode cX10_days 34 = .ok (.iload_n 1, 1) := by decide +kernel
theorem dX10_days_35 : decode cX10_days 35 = .ok (.iload_n 3, 1) := by decide +kernel
theorem dX10_days_36 : decode cX10_days 36 = .ok (.if_icmp .ge 7, 3) := by decide +kernel
theorem dX10_days_39 : decode cX10_days 39 = .ok (.iload_n 1, 1) := by decide +kernel
theorem dX10_days_40 : decode cX10_days 40 = .ok (.goto 4, 3) := by decide +kernel
theorem dX10_days_43 : decode cX10_days 43 = .ok (.iload_n 3, 1) := by decide +kernel
theorem dX10_days_44 : decode cX10_days 44 = .ok (.invokevirtual 185, 3) := by decide +kernel
theorem dX10_days_47 : decode cX10_days 47 = .ok (.aload_n 0, 1) := by decide +kernel
theorem dX10_days_48 : decode cX10_days 48 = .ok (.getfield 7, 3) := by decide +kernel
theorem dX10_days_51 : decode cX10_days 51 = .ok (.iconst 3, 1) := by decide +kernel
theorem dX10_days_52 : decode cX10_days 52 = .ok (.iaload, 1) := by decide +kernel
theorem dX10_days_53 : decode cX10_days 53 = .ok (.iload_n 2, 1) := by decide +kernel
theorem dX10_days_54 : decode cX10_days 54 = .ok (.isub, 1) := by decide +kernel
theorem dX10_days_55 : decode cX10_days 55 = .ok (.ireturn, 1) := by decide +kernel
theorem dX10_regretsOfAll_0 : decode cX10_regretsOfAll 0 = .ok (.iconst 0, 1) := by decide +kernel
theorem dX10_regretsOfAll_1 : decode cX10_regretsOfAll 1 = .ok (.istore_n 1, 1) := by decide +kernel
theorem dX10_regretsOfAll_2 : decode cX10_regretsOfAll 2 = .ok (.iconst 0, 1) := by decide +kernel
theorem dX10_regretsOfAll_3 : decode cX10_regretsOfAll 3 = .ok (.istore_n 2, 1) := by decide +kernel
theorem dX10_regretsOfAll_4 : decode cX10_regretsOfAll 4 = .ok (.iload_n 2, 1) := by decide +kernel
theorem dX10_regretsOfAll_5 : decode cX10_regretsOfAll 5 = .ok (.aload_n 0, 1) := by decide +kernel
theorem dX10_regretsOfAll_6 : decode cX10_regretsOfAll 6 = .ok (.getfield 7, 3) := by decide +kernel
theorem dX10_regretsOfAll_9 : decode cX10_regretsOfAll 9 = .ok (.iconst 0, 1) := by decide +kernel
theorem dX10_regretsOfAll_10 : decode cX10_regretsOfAll 10 = .ok (.iaload, 1) := by decide +kernel
theorem dX10_regretsOfAll_11 : decode cX10_regretsOfAll 11 = .ok (.if_icmp .ge 17, 3) := by decide +kernel
theorem dX10_regretsOfAll_14 : decode cX10_regretsOfAll 14 = .ok (.iload_n 1, 1) := by decide +kernel
theorem dX10_regretsOfAll_15 : decode cX10_regretsOfAll 15 = .ok (.aload_n 0, 1) := by decide +kernel
theorem dX10_regretsOfAll_16 : decode cX10_regretsOfAll 16 = .ok (.iload_n 2, 1) := by decide +kernel
theorem dX10_regretsOfAll_17 : decode cX10_regretsOfAll 17 = .ok (.invokevirtual 117, 3) := by decide +kernel
theorem dX10_regretsOfAll_20 : decode cX10_regretsOfAll 20 = .ok (.iadd, 1) := by decide +kernel
theorem dX10_regretsOfAll_21 : decode cX10_regretsOfAll 21 = .ok (.istore_n 1, 1) := by decide +kernel
theorem dX10_regretsOfAll_22 : decode cX10_regretsOfAll 22 = .ok (.iinc 2 1, 3) := by decide +kernel
theorem dX10_regretsOfAll_25 : decode cX10_regretsOfAll 25 = .ok (.goto (-21), 3) := by decide +kernel
theorem dX10_regretsOfAll_28 : decode cX10_regretsOfAll 28 = .ok (.iload_n 1, 1) := by decide +kernel
theorem dX10_regretsOfAll_29 : decode cX10_regretsOfAll 29 = .ok (.ireturn, 1) := by decide +kernel
theorem dX10_town_0 : decode cX10_town 0 = .ok (.iload_n 1, 1) := by decide +kernel
theorem dX10_town_1 : decode cX10_town 1 = .ok (.i2l, 1) := by decide +kernel
theorem dX10_town_2 : decode cX10_town 2 = .ok (.lconst 0, 1) := by decide +kernel
theorem dX10_town_3 : decode cX10_town 3 = .ok (.ldc2_w 139, 3) := by decide +kernel
theorem dX10_town_6 : decode cX10_town 6 = .ok (.invokestatic 71, 3) := by decide +kernel
theorem dX10_town_9 : decode cX10_town 9 = .ok (.ifCond .ne 6, 3) := by decide +kernel
theorem dX10_town_12 : decode cX10_town 12 = .ok (.ldc 93, 2) := by decide +kernel
theorem dX10_town_14 : decode cX10_town 14 = .ok (.ireturn, 1) := by decide +kernel
theorem dX10_town_15 : decode cX10_town 15 = .ok (.iconst 0, 1) := by decide +kernel
theorem dX10_town_16 : decode cX10_town 16 = .ok (.istore_n 2, 1) := by decide +kernel
theorem dX10_town_17 : decode cX10_town 17 = .ok (.iconst 0, 1) := by decide +kernel
theorem dX10_town_18 : decode cX10_town 18 = .ok (.istore_n 3, 1) := by decide +kernel
theorem dX10_town_19 : decode cX10_town 19 = .ok (.iload_n 3, 1) := by decide +kernel
theorem dX10_town_20 : decode cX10_town 20 = .ok (.aload_n 0, 1) := by decide +kernel
theorem dX10_town_21 : decode cX10_town 21 = .ok (.getfield 7, 3) := by decide +kernel
theorem dX10_town_24 : decode cX10_town 24 = .ok (.bipush 8, 2) := by decide +kernel
theorem dX10_town_26 : decode cX10_town 26 = .ok (.iaload, 1) := by decide +kernel
theorem dX10_town_27 : decode cX10_town 27 = .ok (.if_icmp .ge 20, 3) := by decide +kernel
theorem dX10_town_30 : decode cX10_town 30 = .ok (.iload_n 2, 1) := by decide +kernel
theorem dX10_town_31 : decode cX10_town 31 = .ok (.aload_n 0, 1) := by decide +kernel
theorem dX10_town_32 : decode cX10_town 32 = .ok (.iload_n 3, 1) := by decide +kernel
theorem dX10_town_33 : decode cX10_town 33 = .ok (.iconst 4, 1) := by decide +kernel
theorem dX10_town_34 : decode cX10_town 34 = .ok (.invokevirtual 147, 3) := by decide +kernel
theorem dX10_town_37 : decode cX10_town 37 = .ok (.iload_n 3, 1) := by decide +kernel
theorem dX10_town_38 : decode cX10_town 38 = .ok (.ishl, 1) := by decide +kernel
theorem dX10_town_39 : decode cX10_town 39 = .ok (.ior, 1) := by decide +kernel
theorem dX10_town_40 : decode cX10_town 40 = .ok (.istore_n 2, 1) := by decide +kernel
theorem dX10_town_41 : decode cX10_town 41 = .ok (.iinc 3 1, 3) := by decide +kernel
theorem dX10_town_44 : decode cX10_town 44 = .ok (.goto (-25), 3) := by decide +kernel
theorem dX10_town_47 : decode cX10_town 47 = .ok (.iload_n 1, 1) := by decide +kernel
theorem dX10_town_48 : decode cX10_town 48 = .ok (.iconst 3, 1) := by decide +kernel
theorem dX10_town_49 : decode cX10_town 49 = .ok (.if_icmp .ge 14, 3) := by decide +kernel
theorem dX10_town_52 : decode cX10_town 52 = .ok (.aload_n 0, 1) := by decide +kernel
theorem dX10_town_53 : decode cX10_town 53 = .ok (.getfield 7, 3) := by decide +kernel
theorem dX10_town_56 : decode cX10_town 56 = .ok (.iconst 3, 1) := by decide +kernel
theorem dX10_town_57 : decode cX10_town 57 = .ok (.iload_n 1, 1) := by decide +kernel
theorem dX10_town_58 : decode cX10_town 58 = .ok (.iadd, 1) := by decide +kernel
theorem dX10_town_59 : decode cX10_town 59 = .ok (.iaload, 1) := by decide +kernel
theorem dX10_town_60 : decode cX10_town 60 = .ok (.goto 16, 3) := by decide +kernel
theorem dX10_town_63 : decode cX10_town 63 = .ok (.iload_n 1, 1) := by decide +kernel
theorem dX10_town_64 : decode cX10_town 64 = .ok (.iconst 3, 1) := by decide +kernel
theorem dX10_town_65 : decode cX10_town 65 = .ok (.if_icmp .ne 10, 3) := by decide +kernel
theorem dX10_town_68 : decode cX10_town 68 = .ok (.aload_n 0, 1) := by decide +kernel
theorem dX10_town_69 : decode cX10_town 69 = .ok (.invokevirtual 188, 3) := by decide +kernel
theorem dX10_town_72 : decode cX10_town 72 = .ok (.goto 4, 3) := by decide +kernel
theorem dX10_town_75 : decode cX10_town 75 = .ok (.iload_n 2, 1) := by decide +kernel
theorem dX10_town_76 : decode cX10_town 76 = .ok (.ireturn, 1) := by decide +kernel
theorem dX10_findRooms_0 : decode cX10_findRooms 0 = .ok (.aload_n 0, 1) := by decide +kernel
theorem dX10_findRooms_1 : decode cX10_findRooms 1 = .ok (.iload_n 1, 1) := by decide +kernel
theorem dX10_findRooms_2 : decode cX10_findRooms 2 = .ok (.iconst 0, 1) := by decide +kernel
theorem dX10_findRooms_3 : decode cX10_findRooms 3 = .ok (.invokevirtual 114, 3) := by decide +kernel
theorem dX10_findRooms_6 : decode cX10_findRooms 6 = .ok (.istore_n 2, 1) := by decide +kernel
theorem dX10_findRooms_7 : decode cX10_findRooms 7 = .ok (.iconst 0, 1) := by decide +kernel
theorem dX10_findRooms_8 : decode cX10_findRooms 8 = .ok (.istore_n 3, 1) := by decide +kernel
theorem dX10_findRooms_9 : decode cX10_findRooms 9 = .ok (.iload_n 3, 1) := by decide +kernel
theorem dX10_findRooms_10 : decode cX10_findRooms 10 = .ok (.iconst 3, 1) := by decide +kernel
theorem dX10_findRooms_11 : decode cX10_findRooms 11 = .ok (.if_icmp .ge 74, 3) := by decide +kernel
theorem dX10_findRooms_14 : decode cX10_findRooms 14 = .ok (.aload_n 0, 1) := by decide +kernel
theorem dX10_findRooms_15 : decode cX10_findRooms 15 = .ok (.getfield 46, 3) := by decide +kernel
theorem dX10_findRooms_18 : decode cX10_findRooms 18 = .ok (.bipush 9, 2) := by decide +kernel
theorem dX10_findRooms_20 : decode cX10_findRooms 20 = .ok (.iload_n 3, 1) := by decide +kernel
theorem dX10_findRooms_21 : decode cX10_findRooms 21 = .ok (.imul, 1) := by decide +kernel
theorem dX10_findRooms_22 : decode cX10_findRooms 22 = .ok (.aload_n 0, 1) := by decide +kernel
theorem dX10_findRooms_23 : decode cX10_findRooms 23 = .ok (.iload_n 1, 1) := by decide +kernel
theorem dX10_findRooms_24 : decode cX10_findRooms 24 = .ok (.iconst 2, 1) := by decide +kernel
theorem dX10_findRooms_25 : decode cX10_findRooms 25 = .ok (.iload_n 3, 1) := by decide +kernel
theorem dX10_findRooms_26 : decode cX10_findRooms 26 = .ok (.iadd, 1) := by decide +kernel
theorem dX10_findRooms_27 : decode cX10_findRooms 27 = .ok (.invokevirtual 114, 3) := by decide +kernel
theorem dX10_findRooms_30 : decode cX10_findRooms 30 = .ok (.iastore, 1) := by decide +kernel
theorem dX10_findRooms_31 : decode cX10_findRooms 31 = .ok (.iconst 1, 1) := by decide +kernel
theorem dX10_findRooms_32 : decode cX10_findRooms 32 = .ok (.istore 4, 2) := by decide +kernel
theorem dX10_findRooms_34 : decode cX10_findRooms 34 = .ok (.iload 4, 2) := by decide +kernel
theorem dX10_findRooms_36 : decode cX10_findRooms 36 = .ok (.bipush 9, 2) := by decide +kernel
theorem dX10_findRooms_38 : decode cX10_findRooms 38 = .ok (.if_icmp .ge 41, 3) := by decide +kernel
theorem dX10_findRooms_41 : decode cX10_findRooms 41 = .ok (.aload_n 0, 1) := by decide +kernel
theorem dX10_findRooms_42 : decode cX10_findRooms 42 = .ok (.getfield 46, 3) := by decide +kernel
theorem dX10_findRooms_45 : decode cX10_findRooms 45 = .ok (.bipush 9, 2) := by decide +kernel
theorem dX10_findRooms_47 : decode cX10_findRooms 47 = .ok (.iload_n 3, 1) := by decide +kernel
theorem dX10_findRooms_48 : decode cX10_findRooms 48 = .ok (.imul, 1) := by decide +kernel
theorem dX10_findRooms_49 : decode cX10_findRooms 49 = .ok (.iload 4, 2) := by decide +kernel
theorem dX10_findRooms_51 : decode cX10_findRooms 51 = .ok (.iadd, 1) := by decide +kernel
theorem dX10_findRooms_52 : decode cX10_findRooms 52 = .ok (.aload_n 0, 1) := by decide +kernel
theorem dX10_findRooms_53 : decode cX10_findRooms 53 = .ok (.iload_n 2, 1) := by decide +kernel
theorem dX10_findRooms_54 : decode cX10_findRooms 54 = .ok (.aload_n 0, 1) := by decide +kernel
theorem dX10_findRooms_55 : decode cX10_findRooms 55 = .ok (.getfield 46, 3) := by decide +kernel
theorem dX10_findRooms_58 : decode cX10_findRooms 58 = .ok (.bipush 9, 2) := by decide +kernel
theorem dX10_findRooms_60 : decode cX10_findRooms 60 = .ok (.iload_n 3, 1) := by decide +kernel
theorem dX10_findRooms_61 : decode cX10_findRooms 61 = .ok (.imul, 1) := by decide +kernel
theorem dX10_findRooms_62 : decode cX10_findRooms 62 = .ok (.iload 4, 2) := by decide +kernel
theorem dX10_findRooms_64 : decode cX10_findRooms 64 = .ok (.iadd, 1) := by decide +kernel
theorem dX10_findRooms_65 : decode cX10_findRooms 65 = .ok (.iconst 1, 1) := by decide +kernel
theorem dX10_findRooms_66 : decode cX10_findRooms 66 = .ok (.isub, 1) := by decide +kernel
theorem dX10_findRooms_67 : decode cX10_findRooms 67 = .ok (.iaload, 1) := by decide +kernel
theorem dX10_findRooms_68 : decode cX10_findRooms 68 = .ok (.iload_n 3, 1) := by decide +kernel
theorem dX10_findRooms_69 : decode cX10_findRooms 69 = .ok (.invokevirtual 165, 3) := by decide +kernel
theorem dX10_findRooms_72 : decode cX10_findRooms 72 = .ok (.iastore, 1) := by decide +kernel
theorem dX10_findRooms_73 : decode cX10_findRooms 73 = .ok (.iinc 4 1, 3) := by decide +kernel
theorem dX10_findRooms_76 : decode cX10_findRooms 76 = .ok (.goto (-42), 3) := by decide +kernel
theorem dX10_findRooms_79 : decode cX10_findRooms 79 = .ok (.iinc 3 1, 3) := by decide +kernel
theorem dX10_findRooms_82 : decode cX10_findRooms 82 = .ok (.goto (-73), 3) := by decide +kernel
theorem dX10_findRooms_85 : decode cX10_findRooms 85 = .ok (.iconst 0, 1) := by decide +kernel
theorem dX10_findRooms_86 : decode cX10_findRooms 86 = .ok (.istore_n 3, 1) := by decide +kernel
theorem dX10_findRooms_87 : decode cX10_findRooms 87 = .ok (.iload_n 3, 1) := by decide +kernel
theorem dX10_findRooms_88 : decode cX10_findRooms 88 = .ok (.sipush 729, 3) := by decide +kernel
theorem dX10_findRooms_91 : decode cX10_findRooms 91 = .ok (.if_icmp .ge 31, 3) := by decide +kernel
theorem dX10_findRooms_94 : decode cX10_findRooms 94 = .ok (.aload_n 0, 1) := by decide +kernel
theorem dX10_findRooms_95 : decode cX10_findRooms 95 = .ok (.getfield 43, 3) := by decide +kernel
theorem dX10_findRooms_98 : decode cX10_findRooms 98 = .ok (.iload_n 3, 1) := by decide +kernel
theorem dX10_findRooms_99 : decode cX10_findRooms 99 = .ok (.iload_n 3, 1) := by decide +kernel
theorem dX10_findRooms_100 : decode cX10_findRooms 100 = .ok (.ifCond .ne 14, 3) := by decide +kernel
theorem dX10_findRooms_103 : decode cX10_findRooms 103 = .ok (.iconst 1, 1) := by decide +kernel
theorem dX10_findRooms_104 : decode cX10_findRooms 104 = .ok (.aload_n 0, 1) := by decide +kernel
theorem dX10_findRooms_105 : decode cX10_findRooms 105 = .ok (.iload_n 1, 1) := by decide +kernel
theorem dX10_findRooms_106 : decode cX10_findRooms 106 = .ok (.iconst 1, 1) := by decide +kernel
theorem dX10_findRooms_107 : decode cX10_findRooms 107 = .ok (.invokevirtual 114, 3) := by decide +kernel
theorem dX10_findRooms_110 : decode cX10_findRooms 110 = .ok (.ishl, 1) := by decide +kernel
theorem dX10_findRooms_111 : decode cX10_findRooms 111 = .ok (.goto 4, 3) := by decide +kernel
theorem dX10_findRooms_114 : decode cX10_findRooms 114 = .ok (.iconst 0, 1) := by decide +kernel
theorem dX10_findRooms_115 : decode cX10_findRooms 115 = .ok (.iastore, 1) := by decide +kernel
theorem dX10_findRooms_116 : decode cX10_findRooms 116 = .ok (.iinc 3 1, 3) := by decide +kernel
theorem dX10_findRooms_119 : decode cX10_findRooms 119 = .ok (.goto (-32), 3) := by decide +kernel
theorem dX10_findRooms_122 : decode cX10_findRooms 122 = .ok (.iconst 0, 1) := by decide +kernel
theorem dX10_findRooms_123 : decode cX10_findRooms 123 = .ok (.istore_n 3, 1) := by decide +kernel
theorem dX10_findRooms_124 : decode cX10_findRooms 124 = .ok (.iload_n 3, 1) := by decide +kernel
theorem dX10_findRooms_125 : decode cX10_findRooms 125 = .ok (.sipush 729, 3) := by decide +kernel
theorem dX10_findRooms_128 : decode cX10_findRooms 128 = .ok (.if_icmp .ge 189, 3) := by decide +kernel
theorem dX10_findRooms_131 : decode cX10_findRooms 131 = .ok (.aload_n 0, 1) := by decide +kernel
theorem dX10_findRooms_132 : decode cX10_findRooms 132 = .ok (.getfield 43, 3) := by decide +kernel
theorem dX10_findRooms_135 : decode cX10_findRooms 135 = .ok (.iload_n 3, 1) := by decide +kernel
theorem dX10_findRooms_136 : decode cX10_findRooms 136 = .ok (.iaload, 1) := by decide +kernel
theorem dX10_findRooms_137 : decode cX10_findRooms 137 = .ok (.ifCond .le 174, 3) := by decide +kernel
theorem dX10_findRooms_140 : decode cX10_findRooms 140 = .ok (.iload_n 3, 1) := by decide +kernel
theorem dX10_findRooms_141 : decode cX10_findRooms 141 = .ok (.invokestatic 191, 3) := by decide +kernel
theorem dX10_findRooms_144 : decode cX10_findRooms 144 = .ok (.bipush 8, 2) := by decide +kernel
theorem dX10_findRooms_146 : decode cX10_findRooms 146 = .ok (.if_icmp .ge 165, 3) := by decide +kernel
theorem dX10_findRooms_149 : decode cX10_findRooms 149 = .ok (.iconst 0, 1) := by decide +kernel
theorem dX10_findRooms_150 : decode cX10_findRooms 150 = .ok (.istore 4, 2) := by decide +kernel
theorem dX10_findRooms_152 : decode cX10_findRooms 152 = .ok (.iload 4, 2) := by decide +kernel
theorem dX10_findRooms_154 : decode cX10_findRooms 154 = .ok (.aload_n 0, 1) := by decide +kernel
theorem dX10_findRooms_155 : decode cX10_findRooms 155 = .ok (.getfield 7, 3) := by decide +kernel
theorem dX10_findRooms_158 : decode cX10_findRooms 158 = .ok (.bipush 8, 2) := by decide +kernel
theorem dX10_findRooms_160 : decode cX10_findRooms 160 = .ok (.iaload, 1) := by decide +kernel
theorem dX10_findRooms_161 : decode cX10_findRooms 161 = .ok (.if_icmp .ge 150, 3) := by decide +kernel
theorem dX10_findRooms_164 : decode cX10_findRooms 164 = .ok (.aload_n 0, 1) := by decide +kernel
theorem dX10_findRooms_165 : decode cX10_findRooms 165 = .ok (.iload 4, 2) := by decide +kernel
theorem dX10_findRooms_167 : decode cX10_findRooms 167 = .ok (.iconst 2, 1) := by decide +kernel
theorem dX10_findRooms_168 : decode cX10_findRooms 168 = .ok (.invokevirtual 147, 3) := by decide +kernel
theorem dX10_findRooms_171 : decode cX10_findRooms 171 = .ok (.istore 5, 2) := by decide +kernel
theorem dX10_findRooms_173 : decode cX10_findRooms 173 = .ok (.iload 5, 2) := by decide +kernel
theorem dX10_findRooms_175 : decode cX10_findRooms 175 = .ok (.ifCond .ne 8, 3) := by decide +kernel
theorem dX10_findRooms_178 : decode cX10_findRooms 178 = .ok (.bipush 81, 2) := by decide +kernel
theorem dX10_findRooms_180 : decode cX10_findRooms 180 = .ok (.goto 15, 3) := by decide +kernel
theorem dX10_findRooms_183 : decode cX10_findRooms 183 = .ok (.iload 5, 2) := by decide +kernel
theorem dX10_findRooms_185 : decode cX10_findRooms 185 = .ok (.iconst 1, 1) := by decide +kernel
theorem dX10_findRooms_186 : decode cX10_findRooms 186 = .ok (.if_icmp .ne 8, 3) := by decide +kernel
theorem dX10_findRooms_189 : decode cX10_findRooms 189 = .ok (.bipush 9, 2) := by decide +kernel
theorem dX10_findRooms_191 : decode cX10_findRooms 191 = .ok (.goto 4, 3) := by decide +kernel
theorem dX10_findRooms_194 : decode cX10_findRooms 194 = .ok (.iconst 1, 1) := by decide +kernel
theorem dX10_findRooms_195 : decode cX10_findRooms 195 = .ok (.istore 6, 2) := by decide +kernel
theorem dX10_findRooms_197 : decode cX10_findRooms 197 = .ok (.aload_n 0, 1) := by decide +kernel
theorem dX10_findRooms_198 : decode cX10_findRooms 198 = .ok (.iload 4, 2) := by decide +kernel
theorem dX10_findRooms_200 : decode cX10_findRooms 200 = .ok (.iconst 4, 1) := by decide +kernel
theorem dX10_findRooms_201 : decode cX10_findRooms 201 = .ok (.invokevirtual 147, 3) := by decide +kernel
theorem dX10_findRooms_204 : decode cX10_findRooms 204 = .ok (.ifCond .ne 59, 3) := by decide +kernel
theorem dX10_findRooms_207 : decode cX10_findRooms 207 = .ok (.aload_n 0, 1) := by decide +kernel
theorem dX10_findRooms_208 : decode cX10_findRooms 208 = .ok (.getfield 43, 3) := by decide +kernel
theorem dX10_findRooms_211 : decode cX10_findRooms 211 = .ok (.iload_n 3, 1) := by decide +kernel
theorem dX10_findRooms_212 : decode cX10_findRooms 212 = .ok (.iaload, 1) := by decide +kernel
theorem dX10_findRooms_213 : decode cX10_findRooms 213 = .ok (.aload_n 0, 1) := by decide +kernel
theorem dX10_findRooms_214 : decode cX10_findRooms 214 = .ok (.iload 4, 2) := by decide +kernel
theorem dX10_findRooms_216 : decode cX10_findRooms 216 = .ok (.iconst 0, 1) := by decide +kernel
theorem dX10_findRooms_217 : decode cX10_findRooms 217 = .ok (.invokevirtual 147, 3) := by decide +kernel
theorem dX10_findRooms_220 : decode cX10_findRooms 220 = .ok (.ishr, 1) := by decide +kernel
theorem dX10_findRooms_221 : decode cX10_findRooms 221 = .ok (.iconst 1, 1) := by decide +kernel
theorem dX10_findRooms_222 : decode cX10_findRooms 222 = .ok (.iand, 1) := by decide +kernel
theorem dX10_findRooms_223 : decode cX10_findRooms 223 = .ok (.iconst 1, 1) := by decide +kernel
theorem dX10_findRooms_224 : decode cX10_findRooms 224 = .ok (.if_icmp .ne 39, 3) := by decide +kernel
theorem dX10_findRooms_227 : decode cX10_findRooms 227 = .ok (.iload_n 2, 1) := by decide +kernel
theorem dX10_findRooms_228 : decode cX10_findRooms 228 = .ok (.aload_n 0, 1) := by decide +kernel
theorem dX10_findRooms_229 : decode cX10_findRooms 229 = .ok (.getfield 46, 3) := by decide +kernel
theorem dX10_findRooms_232 : decode cX10_findRooms 232 = .ok (.bipush 9, 2) := by decide +kernel
theorem dX10_findRooms_234 : decode cX10_findRooms 234 = .ok (.iload 5, 2) := by decide +kernel
theorem dX10_findRooms_236 : decode cX10_findRooms 236 = .ok (.imul, 1) := by decide +kernel
theorem dX10_findRooms_237 : decode cX10_findRooms 237 = .ok (.iload_n 3, 1) := by decide +kernel
theorem dX10_findRooms_238 : decode cX10_findRooms 238 = .ok (.iload 6, 2) := by decide +kernel
theorem dX10_findRooms_240 : decode cX10_findRooms 240 = .ok (.idiv, 1) := by decide +kernel
theorem dX10_findRooms_241 : decode cX10_findRooms 241 = .ok (.bipush 9, 2) := by decide +kernel
theorem dX10_findRooms_243 : decode cX10_findRooms 243 = .ok (.irem, 1) := by decide +kernel
theorem dX10_findRooms_244 : decode cX10_findRooms 244 = .ok (.iadd, 1) := by decide +kernel
theorem dX10_findRooms_245 : decode cX10_findRooms 245 = .ok (.iaload, 1) := by decide +kernel
theorem dX10_findRooms_246 : decode cX10_findRooms 246 = .ok (.invokestatic 128, 3) := by decide +kernel
theorem dX10_findRooms_249 : decode cX10_findRooms 249 = .ok (.aload_n 0, 1) := by decide +kernel
theorem dX10_findRooms_250 : decode cX10_findRooms 250 = .ok (.iload 4, 2) := by decide +kernel
theorem dX10_findRooms_252 : decode cX10_findRooms 252 = .ok (.iconst 3, 1) := by decide +kernel
theorem dX10_findRooms_253 : decode cX10_findRooms 253 = .ok (.invokevirtual 147, 3) := by decide +kernel
theorem dX10_findRooms_256 : decode cX10_findRooms 256 = .ok (.if_icmp .lt 7, 3) := by decide +kernel
theorem dX10_findRooms_259 : decode cX10_findRooms 259 = .ok (.iconst 1, 1) := by decide +kernel
theorem dX10_findRooms_260 : decode cX10_findRooms 260 = .ok (.goto 4, 3) := by decide +kernel
theorem dX10_findRooms_263 : decode cX10_findRooms 263 = .ok (.iconst 0, 1) := by decide +kernel
theorem dX10_findRooms_264 : decode cX10_findRooms 264 = .ok (.istore 7, 2) := by decide +kernel
theorem dX10_findRooms_266 : decode cX10_findRooms 266 = .ok (.aload_n 0, 1) := by decide +kernel
theorem dX10_findRooms_267 : decode cX10_findRooms 267 = .ok (.getfield 43, 3) := by decide +kernel
theorem dX10_findRooms_270 : decode cX10_findRooms 270 = .ok (.iload 7, 2) := by decide +kernel
theorem dX10_findRooms_272 : decode cX10_findRooms 272 = .ok (.ifCond .eq 10, 3) := by decide +kernel
theorem dX10_findRooms_275 : decode cX10_findRooms 275 = .ok (.iload_n 3, 1) := by decide +kernel
theorem dX10_findRooms_276 : decode cX10_findRooms 276 = .ok (.iload 6, 2) := by decide +kernel
theorem dX10_findRooms_278 : decode cX10_findRooms 278 = .ok (.iadd, 1) := by decide +kernel
theorem dX10_findRooms_279 : decode cX10_findRooms 279 = .ok (.goto 4, 3) := by decide +kernel
theorem dX10_findRooms_282 : decode cX10_findRooms 282 = .ok (.iload_n 3, 1) := by decide +kernel
theorem dX10_findRooms_283 : decode cX10_findRooms 283 = .ok (.dup2, 1) := by decide +kernel
theorem dX10_findRooms_284 : decode cX10_findRooms 284 = .ok (.iaload, 1) := by decide +kernel
theorem dX10_findRooms_285 : decode cX10_findRooms 285 = .ok (.iload 7, 2) := by decide +kernel
theorem dX10_findRooms_287 : decode cX10_findRooms 287 = .ok (.ifCond .eq 15, 3) := by decide +kernel
theorem dX10_findRooms_290 : decode cX10_findRooms 290 = .ok (.iconst 1, 1) := by decide +kernel
theorem dX10_findRooms_291 : decode cX10_findRooms 291 = .ok (.aload_n 0, 1) := by decide +kernel
theorem dX10_findRooms_292 : decode cX10_findRooms 292 = .ok (.iload 4, 2) := by decide +kernel
theorem dX10_findRooms_294 : decode cX10_findRooms 294 = .ok (.iconst 1, 1) := by decide +kernel
theorem dX10_findRooms_295 : decode cX10_findRooms 295 = .ok (.invokevirtual 147, 3) := by decide +kernel
theorem dX10_findRooms_298 : decode cX10_findRooms 298 = .ok (.ishl, 1) := by decide +kernel
theorem dX10_findRooms_299 : decode cX10_findRooms 299 = .ok (.goto 4, 3) := by decide +kernel
theorem dX10_findRooms_302 : decode cX10_findRooms 302 = .ok (.iconst 0, 1) := by decide +kernel
theorem dX10_findRooms_303 : decode cX10_findRooms 303 = .ok (.ior, 1) := by decide +kernel
theorem dX10_findRooms_304 : decode cX10_findRooms 304 = .ok (.iastore, 1) := by decide +kernel
theorem dX10_findRooms_305 : decode cX10_findRooms 305 = .ok (.iinc 4 1, 3) := by decide +kernel
theorem dX10_findRooms_308 : decode cX10_findRooms 308 = .ok (.goto (-156), 3) := by decide +kernel
theorem dX10_findRooms_311 : decode cX10_findRooms 311 = .ok (.iinc 3 1, 3) := by decide +kernel
theorem dX10_findRooms_314 : decode cX10_findRooms 314 = .ok (.goto (-190), 3) := by decide +kernel
theorem dX10_findRooms_317 : decode cX10_findRooms 317 = .ok (.return_, 1) := by decide +kernel
theorem dX10_latches_0 : decode cX10_latches 0 = .ok (.iload_n 0, 1) := by decide +kernel
theorem dX10_latches_1 : decode cX10_latches 1 = .ok (.bipush 81, 2) := by decide +kernel
theorem dX10_latches_3 : decode cX10_latches 3 = .ok (.idiv, 1) := by decide +kernel
theorem dX10_latches_4 : decode cX10_latches 4 = .ok (.iload_n 0, 1) := by decide +kernel
theorem dX10_latches_5 : decode cX10_latches 5 = .ok (.bipush 9, 2) := by decide +kernel
theorem dX10_latches_7 : decode cX10_latches 7 = .ok (.idiv, 1) := by decide +kernel
theorem dX10_latches_8 : decode cX10_latches 8 = .ok (.bipush 9, 2) := by decide +kernel
theorem dX10_latches_10 : decode cX10_latches 10 = .ok (.irem, 1) := by decide +kernel
theorem dX10_latches_11 : decode cX10_latches 11 = .ok (.iadd, 1) := by decide +kernel
theorem dX10_latches_12 : decode cX10_latches 12 = .ok (.iload_n 0, 1) := by decide +kernel
theorem dX10_latches_13 : decode cX10_latches 13 = .ok (.bipush 9, 2) := by decide +kernel
theorem dX10_latches_15 : decode cX10_latches 15 = .ok (.irem, 1) := by decide +kernel
theorem dX10_latches_16 : decode cX10_latches 16 = .ok (.iadd, 1) := by decide +kernel
theorem dX10_latches_17 : decode cX10_latches 17 = .ok (.ireturn, 1) := by decide +kernel
theorem dX10_reached_0 : decode cX10_reached 0 = .ok (.aload_n 0, 1) := by decide +kernel
theorem dX10_reached_1 : decode cX10_reached 1 = .ok (.iload_n 1, 1) := by decide +kernel
theorem dX10_reached_2 : decode cX10_reached 2 = .ok (.invokevirtual 194, 3) := by decide +kernel
theorem dX10_reached_5 : decode cX10_reached 5 = .ok (.iconst 0, 1) := by decide +kernel
theorem dX10_reached_6 : decode cX10_reached 6 = .ok (.istore_n 2, 1) := by decide +kernel
theorem dX10_reached_7 : decode cX10_reached 7 = .ok (.iconst 0, 1) := by decide +kernel
theorem dX10_reached_8 : decode cX10_reached 8 = .ok (.istore_n 3, 1) := by decide +kernel
theorem dX10_reached_9 : decode cX10_reached 9 = .ok (.iload_n 3, 1) := by decide +kernel
theorem dX10_reached_10 : decode cX10_reached 10 = .ok (.sipush 729, 3) := by decide +kernel
theorem dX10_reached_13 : decode cX10_reached 13 = .ok (.if_icmp .ge 18, 3) := by decide +kernel
theorem dX10_reached_16 : decode cX10_reached 16 = .ok (.iload_n 2, 1) := by decide +kernel
theorem dX10_reached_17 : decode cX10_reached 17 = .ok (.aload_n 0, 1) := by decide +kernel
theorem dX10_reached_18 : decode cX10_reached 18 = .ok (.getfield 43, 3) := by decide +kernel
theorem dX10_reached_21 : decode cX10_reached 21 = .ok (.iload_n 3, 1) := by decide +kernel
theorem dX10_reached_22 : decode cX10_reached 22 = .ok (.iaload, 1) := by decide +kernel
theorem dX10_reached_23 : decode cX10_reached 23 = .ok (.ior, 1) := by decide +kernel
theorem dX10_reached_24 : decode cX10_reached 24 = .ok (.istore_n 2, 1) := by decide +kernel
theorem dX10_reached_25 : decode cX10_reached 25 = .ok (.iinc 3 1, 3) := by decide +kernel
theorem dX10_reached_28 : decode cX10_reached 28 = .ok (.goto (-19), 3) := by decide +kernel
theorem dX10_reached_31 : decode cX10_reached 31 = .ok (.iload_n 2, 1) := by decide +kernel
theorem dX10_reached_32 : decode cX10_reached 32 = .ok (.ireturn, 1) := by decide +kernel
theorem dX10_reach_0 : decode cX10_reach 0 = .ok (.aload_n 0, 1) := by decide +kernel
theorem dX10_reach_1 : decode cX10_reach 1 = .ok (.iload_n 1, 1) := by decide +kernel
theorem dX10_reach_2 : decode cX10_reach 2 = .ok (.invokevirtual 120, 3) := by decide +kernel
theorem dX10_reach_5 : decode cX10_reach 5 = .ok (.ifCond .eq 11, 3) := by decide +kernel
theorem dX10_reach_8 : decode cX10_reach 8 = .ok (.aload_n 0, 1) := by decide +kernel
theorem dX10_reach_9 : decode cX10_reach 9 = .ok (.iload_n 1, 1) := by decide +kernel
theorem dX10_reach_10 : decode cX10_reach 10 = .ok (.invokevirtual 197, 3) := by decide +kernel
theorem dX10_reach_13 : decode cX10_reach 13 = .ok (.goto 5, 3) := by decide +kernel
theorem dX10_reach_16 : decode cX10_reach 16 = .ok (.ldc 93, 2) := by decide +kernel
theorem dX10_reach_18 : decode cX10_reach 18 = .ok (.ireturn, 1) := by decide +kernel
theorem dX10_way_0 : decode cX10_way 0 = .ok (.aload_n 0, 1) := by decide +kernel
theorem dX10_way_1 : decode cX10_way 1 = .ok (.iload_n 1, 1) := by decide +kernel
theorem dX10_way_2 : decode cX10_way 2 = .ok (.invokevirtual 120, 3) := by decide +kernel
theorem dX10_way_5 : decode cX10_way 5 = .ok (.ifCond .eq 10, 3) := by decide +kernel
theorem dX10_way_8 : decode cX10_way 8 = .ok (.iload_n 2, 1) := by decide +kernel
theorem dX10_way_9 : decode cX10_way 9 = .ok (.invokestatic 86, 3) := by decide +kernel
theorem dX10_way_12 : decode cX10_way 12 = .ok (.ifCond .ne 6, 3) := by decide +kernel
theorem dX10_way_15 : decode cX10_way 15 = .ok (.ldc 93, 2) := by decide +kernel
theorem dX10_way_17 : decode cX10_way 17 = .ok (.ireturn, 1) := by decide +kernel
theorem dX10_way_18 : decode cX10_way 18 = .ok (.aload_n 0, 1) := by decide +kernel
theorem dX10_way_19 : decode cX10_way 19 = .ok (.iload_n 1, 1) := by decide +kernel
theorem dX10_way_20 : decode cX10_way 20 = .ok (.invokevirtual 194, 3) := by decide +kernel
theorem dX10_way_23 : decode cX10_way 23 = .ok (.bipush 9, 2) := by decide +kernel
theorem dX10_way_25 : decode cX10_way 25 = .ok (.istore_n 3, 1) := by decide +kernel
theorem dX10_way_26 : decode cX10_way 26 = .ok (.iconst 0, 1) := by decide +kernel
theorem dX10_way_27 : decode cX10_way 27 = .ok (.istore 4, 2) := by decide +kernel
theorem dX10_way_29 : decode cX10_way 29 = .ok (.iload 4, 2) := by decide +kernel
theorem dX10_way_31 : decode cX10_way 31 = .ok (.sipush 729, 3) := by decide +kernel
theorem dX10_way_34 : decode cX10_way 34 = .ok (.if_icmp .ge 55, 3) := by decide +kernel
theorem dX10_way_37 : decode cX10_way 37 = .ok (.aload_n 0, 1) := by decide +kernel
theorem dX10_way_38 : decode cX10_way 38 = .ok (.getfield 43, 3) := by decide +kernel
theorem dX10_way_41 : decode cX10_way 41 = .ok (.iload 4, 2) := by decide +kernel
theorem dX10_way_43 : decode cX10_way 43 = .ok (.iaload, 1) := by decide +kernel
theorem dX10_way_44 : decode cX10_way 44 = .ok (.iload_n 2, 1) := by decide +kernel
theorem dX10_way_45 : decode cX10_way 45 = .ok (.ishr, 1) := by decide +kernel
theorem dX10_way_46 : decode cX10_way 46 = .ok (.iconst 1, 1) := by decide +kernel
theorem dX10_way_47 : decode cX10_way 47 = .ok (.iand, 1) := by decide +kernel
theorem dX10_way_48 : decode cX10_way 48 = .ok (.iconst 1, 1) := by decide +kernel
theorem dX10_way_49 : decode cX10_way 49 = .ok (.if_icmp .ne 16, 3) := by decide +kernel
theorem dX10_way_52 : decode cX10_way 52 = .ok (.iload 4, 2) := by decide +kernel
theorem dX10_way_54 : decode cX10_way 54 = .ok (.invokestatic 191, 3) := by decide +kernel
theorem dX10_way_57 : decode cX10_way 57 = .ok (.iload_n 3, 1) := by decide +kernel
theorem dX10_way_58 : decode cX10_way 58 = .ok (.if_icmp .ge 7, 3) := by decide +kernel
theorem dX10_way_61 : decode cX10_way 61 = .ok (.iconst 1, 1) := by decide +kernel
theorem dX10_way_62 : decode cX10_way 62 = .ok (.goto 4, 3) := by decide +kernel
theorem dX10_way_65 : decode cX10_way 65 = .ok (.iconst 0, 1) := by decide +kernel
theorem dX10_way_66 : decode cX10_way 66 = .ok (.istore 5, 2) := by decide +kernel
theorem dX10_way_68 : decode cX10_way 68 = .ok (.iload 5, 2) := by decide +kernel
theorem dX10_way_70 : decode cX10_way 70 = .ok (.ifCond .eq 11, 3) := by decide +kernel
theorem dX10_way_73 : decode cX10_way 73 = .ok (.iload 4, 2) := by decide +kernel
theorem dX10_way_75 : decode cX10_way 75 = .ok (.invokestatic 191, 3) := by decide +kernel
theorem dX10_way_78 : decode cX10_way 78 = .ok (.goto 4, 3) := by decide +kernel
theorem dX10_way_81 : decode cX10_way 81 = .ok (.iload_n 3, 1) := by decide +kernel
theorem dX10_way_82 : decode cX10_way 82 = .ok (.istore_n 3, 1) := by decide +kernel
theorem dX10_way_83 : decode cX10_way 83 = .ok (.iinc 4 1, 3) := by decide +kernel
theorem dX10_way_86 : decode cX10_way 86 = .ok (.goto (-57), 3) := by decide +kernel
theorem dX10_way_89 : decode cX10_way 89 = .ok (.iload_n 3, 1) := by decide +kernel
theorem dX10_way_90 : decode cX10_way 90 = .ok (.bipush 9, 2) := by decide +kernel
theorem dX10_way_92 : decode cX10_way 92 = .ok (.if_icmp .ge 7, 3) := by decide +kernel
theorem dX10_way_95 : decode cX10_way 95 = .ok (.iload_n 3, 1) := by decide +kernel
theorem dX10_way_96 : decode cX10_way 96 = .ok (.goto 5, 3) := by decide +kernel
theorem dX10_way_99 : decode cX10_way 99 = .ok (.ldc 70, 2) := by decide +kernel
theorem dX10_way_101 : decode cX10_way 101 = .ok (.ireturn, 1) := by decide +kernel
theorem dX10_just_0 : decode cX10_just 0 = .ok (.aload_n 0, 1) := by decide +kernel
theorem dX10_just_1 : decode cX10_just 1 = .ok (.iload_n 1, 1) := by decide +kernel
theorem dX10_just_2 : decode cX10_just 2 = .ok (.invokevirtual 150, 3) := by decide +kernel
theorem dX10_just_5 : decode cX10_just 5 = .ok (.ifCond .eq 23, 3) := by decide +kernel
theorem dX10_just_8 : decode cX10_just 8 = .ok (.iload_n 2, 1) := by decide +kernel
theorem dX10_just_9 : decode cX10_just 9 = .ok (.i2l, 1) := by decide +kernel
theorem dX10_just_10 : decode cX10_just 10 = .ok (.lconst 0, 1) := by decide +kernel
theorem dX10_just_11 : decode cX10_just 11 = .ok (.iconst 1, 1) := by decide +kernel
theorem dX10_just_12 : decode cX10_just 12 = .ok (.aload_n 0, 1) := by decide +kernel
theorem dX10_just_13 : decode cX10_just 13 = .ok (.getfield 7, 3) := by decide +kernel
theorem dX10_just_16 : decode cX10_just 16 = .ok (.iconst 0, 1) := by decide +kernel
theorem dX10_just_17 : decode cX10_just 17 = .ok (.iaload, 1) := by decide +kernel
theorem dX10_just_18 : decode cX10_just 18 = .ok (.ishl, 1) := by decide +kernel
theorem dX10_just_19 : decode cX10_just 19 = .ok (.iconst 1, 1) := by decide +kernel
theorem dX10_just_20 : decode cX10_just 20 = .ok (.isub, 1) := by decide +kernel
theorem dX10_just_21 : decode cX10_just 21 = .ok (.i2l, 1) := by decide +kernel
theorem dX10_just_22 : decode cX10_just 22 = .ok (.invokestatic 71, 3) := by decide +kernel
theorem dX10_just_25 : decode cX10_just 25 = .ok (.ifCond .ne 6, 3) := by decide +kernel
theorem dX10_just_28 : decode cX10_just 28 = .ok (.ldc 93, 2) := by decide +kernel
theorem dX10_just_30 : decode cX10_just 30 = .ok (.ireturn, 1) := by decide +kernel
theorem dX10_just_31 : decode cX10_just 31 = .ok (.iconst 0, 1) := by decide +kernel
theorem dX10_just_32 : decode cX10_just 32 = .ok (.istore_n 3, 1) := by decide +kernel
theorem dX10_just_33 : decode cX10_just 33 = .ok (.iload_n 3, 1) := by decide +kernel
theorem dX10_just_34 : decode cX10_just 34 = .ok (.bipush 99, 2) := by decide +kernel
theorem dX10_just_36 : decode cX10_just 36 = .ok (.if_icmp .gt 81, 3) := by decide +kernel
theorem dX10_just_39 : decode cX10_just 39 = .ok (.iconst 0, 1) := by decide +kernel
theorem dX10_just_40 : decode cX10_just 40 = .ok (.istore 4, 2) := by decide +kernel
theorem dX10_just_42 : decode cX10_just 42 = .ok (.iconst 0, 1) := by decide +kernel
theorem dX10_just_43 : decode cX10_just 43 = .ok (.istore 5, 2) := by decide +kernel
theorem dX10_just_45 : decode cX10_just 45 = .ok (.iload 5, 2) := by decide +kernel
theorem dX10_just_47 : decode cX10_just 47 = .ok (.aload_n 0, 1) := by decide +kernel
theorem dX10_just_48 : decode cX10_just 48 = .ok (.getfield 7, 3) := by decide +kernel
theorem dX10_just_51 : decode cX10_just 51 = .ok (.iconst 0, 1) := by decide +kernel
theorem dX10_just_52 : decode cX10_just 52 = .ok (.iaload, 1) := by decide +kernel
theorem dX10_just_53 : decode cX10_just 53 = .ok (.if_icmp .ge 50, 3) := by decide +kernel
theorem dX10_just_56 : decode cX10_just 56 = .ok (.iload 4, 2) := by decide +kernel
theorem dX10_just_58 : decode cX10_just 58 = .ok (.aload_n 0, 1) := by decide +kernel
theorem dX10_just_59 : decode cX10_just 59 = .ok (.iload 5, 2) := by decide +kernel
theorem dX10_just_61 : decode cX10_just 61 = .ok (.iconst 0, 1) := by decide +kernel
theorem dX10_just_62 : decode cX10_just 62 = .ok (.invokevirtual 114, 3) := by decide +kernel
theorem dX10_just_65 : decode cX10_just 65 = .ok (.aload_n 0, 1) := by decide +kernel
theorem dX10_just_66 : decode cX10_just 66 = .ok (.iload 5, 2) := by decide +kernel
theorem dX10_just_68 : decode cX10_just 68 = .ok (.iconst 2, 1) := by decide +kernel
theorem dX10_just_69 : decode cX10_just 69 = .ok (.aload_n 0, 1) := by decide +kernel
theorem dX10_just_70 : decode cX10_just 70 = .ok (.iload_n 1, 1) := by decide +kernel
theorem dX10_just_71 : decode cX10_just 71 = .ok (.iconst 2, 1) := by decide +kernel
theorem dX10_just_72 : decode cX10_just 72 = .ok (.invokevirtual 147, 3) := by decide +kernel
theorem dX10_just_75 : decode cX10_just 75 = .ok (.iadd, 1) := by decide +kernel
theorem dX10_just_76 : decode cX10_just 76 = .ok (.invokevirtual 114, 3) := by decide +kernel
theorem dX10_just_79 : decode cX10_just 79 = .ok (.invokestatic 128, 3) := by decide +kernel
theorem dX10_just_82 : decode cX10_just 82 = .ok (.iload_n 3, 1) := by decide +kernel
theorem dX10_just_83 : decode cX10_just 83 = .ok (.if_icmp .lt 10, 3) := by decide +kernel
theorem dX10_just_86 : decode cX10_just 86 = .ok (.iconst 1, 1) := by decide +kernel
theorem dX10_just_87 : decode cX10_just 87 = .ok (.iload 5, 2) := by decide +kernel
theorem dX10_just_89 : decode cX10_just 89 = .ok (.ishl, 1) := by decide +kernel
theorem dX10_just_90 : decode cX10_just 90 = .ok (.goto 4, 3) := by decide +kernel
theorem dX10_just_93 : decode cX10_just 93 = .ok (.iconst 0, 1) := by decide +kernel
theorem dX10_just_94 : decode cX10_just 94 = .ok (.ior, 1) := by decide +kernel
theorem dX10_just_95 : decode cX10_just 95 = .ok (.istore 4, 2) := by decide +kernel
theorem dX10_just_97 : decode cX10_just 97 = .ok (.iinc 5 1, 3) := by decide +kernel
theorem dX10_just_100 : decode cX10_just 100 = .ok (.goto (-55), 3) := by decide +kernel
theorem dX10_just_103 : decode cX10_just 103 = .ok (.iload 4, 2) := by decide +kernel
theorem dX10_just_105 : decode cX10_just 105 = .ok (.iload_n 2, 1) := by decide +kernel
theorem dX10_just_106 : decode cX10_just 106 = .ok (.if_icmp .ne 5, 3) := by decide +kernel
theorem dX10_just_109 : decode cX10_just 109 = .ok (.iload_n 3, 1) := by decide +kernel
theorem dX10_just_110 : decode cX10_just 110 = .ok (.ireturn, 1) := by decide +kernel
theorem dX10_just_111 : decode cX10_just 111 = .ok (.iinc 3 1, 3) := by decide +kernel
theorem dX10_just_114 : decode cX10_just 114 = .ok (.goto (-81), 3) := by decide +kernel
theorem dX10_just_117 : decode cX10_just 117 = .ok (.ldc 70, 2) := by decide +kernel
theorem dX10_just_119 : decode cX10_just 119 = .ok (.ireturn, 1) := by decide +kernel
theorem dX10_sorry_0 : decode cX10_sorry 0 = .ok (.aload_n 0, 1) := by decide +kernel
theorem dX10_sorry_1 : decode cX10_sorry 1 = .ok (.iload_n 1, 1) := by decide +kernel
theorem dX10_sorry_2 : decode cX10_sorry 2 = .ok (.invokevirtual 120, 3) := by decide +kernel
theorem dX10_sorry_5 : decode cX10_sorry 5 = .ok (.ifCond .eq 11, 3) := by decide +kernel
theorem dX10_sorry_8 : decode cX10_sorry 8 = .ok (.aload_n 0, 1) := by decide +kernel
theorem dX10_sorry_9 : decode cX10_sorry 9 = .ok (.iload_n 2, 1) := by decide +kernel
theorem dX10_sorry_10 : decode cX10_sorry 10 = .ok (.invokevirtual 150, 3) := by decide +kernel
theorem dX10_sorry_13 : decode cX10_sorry 13 = .ok (.ifCond .ne 6, 3) := by decide +kernel
theorem dX10_sorry_16 : decode cX10_sorry 16 = .ok (.ldc 93, 2) := by decide +kernel
theorem dX10_sorry_18 : decode cX10_sorry 18 = .ok (.ireturn, 1) := by decide +kernel
theorem dX10_sorry_19 : decode cX10_sorry 19 = .ok (.aload_n 0, 1) := by decide +kernel
theorem dX10_sorry_20 : decode cX10_sorry 20 = .ok (.iload_n 1, 1) := by decide +kernel
theorem dX10_sorry_21 : decode cX10_sorry 21 = .ok (.iconst 2, 1) := by decide +kernel
theorem dX10_sorry_22 : decode cX10_sorry 22 = .ok (.aload_n 0, 1) := by decide +kernel
theorem dX10_sorry_23 : decode cX10_sorry 23 = .ok (.iload_n 2, 1) := by decide +kernel
theorem dX10_sorry_24 : decode cX10_sorry 24 = .ok (.iconst 2, 1) := by decide +kernel
theorem dX10_sorry_25 : decode cX10_sorry 25 = .ok (.invokevirtual 147, 3) := by decide +kernel
theorem dX10_sorry_28 : decode cX10_sorry 28 = .ok (.iadd, 1) := by decide +kernel
theorem dX10_sorry_29 : decode cX10_sorry 29 = .ok (.invokevirtual 114, 3) := by decide +kernel
theorem dX10_sorry_32 : decode cX10_sorry 32 = .ok (.istore_n 3, 1) := by decide +kernel
theorem dX10_sorry_33 : decode cX10_sorry 33 = .ok (.iload_n 3, 1) := by decide +kernel
theorem dX10_sorry_34 : decode cX10_sorry 34 = .ok (.istore 4, 2) := by decide +kernel
theorem dX10_sorry_36 : decode cX10_sorry 36 = .ok (.iload 4, 2) := by decide +kernel
theorem dX10_sorry_38 : decode cX10_sorry 38 = .ok (.bipush 99, 2) := by decide +kernel
theorem dX10_sorry_40 : decode cX10_sorry 40 = .ok (.if_icmp .gt 29, 3) := by decide +kernel
theorem dX10_sorry_43 : decode cX10_sorry 43 = .ok (.aload_n 0, 1) := by decide +kernel
theorem dX10_sorry_44 : decode cX10_sorry 44 = .ok (.iload_n 1, 1) := by decide +kernel
theorem dX10_sorry_45 : decode cX10_sorry 45 = .ok (.iconst 0, 1) := by decide +kernel
theorem dX10_sorry_46 : decode cX10_sorry 46 = .ok (.invokevirtual 114, 3) := by decide +kernel
theorem dX10_sorry_49 : decode cX10_sorry 49 = .ok (.iload 4, 2) := by decide +kernel
theorem dX10_sorry_51 : decode cX10_sorry 51 = .ok (.invokestatic 128, 3) := by decide +kernel
theorem dX10_sorry_54 : decode cX10_sorry 54 = .ok (.aload_n 0, 1) := by decide +kernel
theorem dX10_sorry_55 : decode cX10_sorry 55 = .ok (.iload_n 2, 1) := by decide +kernel
theorem dX10_sorry_56 : decode cX10_sorry 56 = .ok (.iconst 3, 1) := by decide +kernel
theorem dX10_sorry_57 : decode cX10_sorry 57 = .ok (.invokevirtual 147, 3) := by decide +kernel
theorem dX10_sorry_60 : decode cX10_sorry 60 = .ok (.if_icmp .ge 9, 3) := by decide +kernel
theorem dX10_sorry_63 : decode cX10_sorry 63 = .ok (.iinc 4 1, 3) := by decide +kernel
theorem dX10_sorry_66 : decode cX10_sorry 66 = .ok (.goto (-30), 3) := by decide +kernel
theorem dX10_sorry_69 : decode cX10_sorry 69 = .ok (.iload 4, 2) := by decide +kernel
theorem dX10_sorry_71 : decode cX10_sorry 71 = .ok (.bipush 99, 2) := by decide +kernel
theorem dX10_sorry_73 : decode cX10_sorry 73 = .ok (.if_icmp .gt 10, 3) := by decide +kernel
theorem dX10_sorry_76 : decode cX10_sorry 76 = .ok (.iload 4, 2) := by decide +kernel
theorem dX10_sorry_78 : decode cX10_sorry 78 = .ok (.iload_n 3, 1) := by decide +kernel
theorem dX10_sorry_79 : decode cX10_sorry 79 = .ok (.isub, 1) := by decide +kernel
theorem dX10_sorry_80 : decode cX10_sorry 80 = .ok (.goto 5, 3) := by decide +kernel
theorem dX10_sorry_83 : decode cX10_sorry 83 = .ok (.ldc 70, 2) := by decide +kernel
theorem dX10_sorry_85 : decode cX10_sorry 85 = .ok (.ireturn, 1) := by decide +kernel
theorem dX10_laysBy_0 : decode cX10_laysBy 0 = .ok (.iconst 0, 1) := by decide +kernel
theorem dX10_laysBy_1 : decode cX10_laysBy 1 = .ok (.istore_n 1, 1) := by decide +kernel
theorem dX10_laysBy_2 : decode cX10_laysBy 2 = .ok (.iload_n 1, 1) := by decide +kernel
theorem dX10_laysBy_3 : decode cX10_laysBy 3 = .ok (.bipush 100, 2) := by decide +kernel
theorem dX10_laysBy_5 : decode cX10_laysBy 5 = .ok (.if_icmp .ge 21, 3) := by decide +kernel
theorem dX10_laysBy_8 : decode cX10_laysBy 8 = .ok (.aload_n 0, 1) := by decide +kernel
theorem dX10_laysBy_9 : decode cX10_laysBy 9 = .ok (.getfield 49, 3) := by decide +kernel
theorem dX10_laysBy_12 : decode cX10_laysBy 12 = .ok (.iload_n 1, 1) := by decide +kernel
theorem dX10_laysBy_13 : decode cX10_laysBy 13 = .ok (.aload_n 0, 1) := by decide +kernel
theorem dX10_laysBy_14 : decode cX10_laysBy 14 = .ok (.getfield 7, 3) := by decide +kernel
theorem dX10_laysBy_17 : decode cX10_laysBy 17 = .ok (.iload_n 1, 1) := by decide +kernel
theorem dX10_laysBy_18 : decode cX10_laysBy 18 = .ok (.iaload, 1) := by decide +kernel
theorem dX10_laysBy_19 : decode cX10_laysBy 19 = .ok (.iastore, 1) := by decide +kernel
theorem dX10_laysBy_20 : decode cX10_laysBy 20 = .ok (.iinc 1 1, 3) := by decide +kernel
theorem dX10_laysBy_23 : decode cX10_laysBy 23 = .ok (.goto (-21), 3) := by decide +kernel
theorem dX10_laysBy_26 : decode cX10_laysBy 26 = .ok (.return_, 1) := by decide +kernel
theorem dX10_laysBack_0 : decode cX10_laysBack 0 = .ok (.iconst 0, 1) := by decide +kernel
theorem dX10_laysBack_1 : decode cX10_laysBack 1 = .ok (.istore_n 1, 1) := by decide +kernel
theorem dX10_laysBack_2 : decode cX10_laysBack 2 = .ok (.iload_n 1, 1) := by decide +kernel
theorem dX10_laysBack_3 : decode cX10_laysBack 3 = .ok (.bipush 100, 2) := by decide +kernel
theorem dX10_laysBack_5 : decode cX10_laysBack 5 = .ok (.if_icmp .ge 21, 3) := by decide +kernel
theorem dX10_laysBack_8 : decode cX10_laysBack 8 = .ok (.aload_n 0, 1) := by decide +kernel
theorem dX10_laysBack_9 : decode cX10_laysBack 9 = .ok (.getfield 7, 3) := by decide +kernel
theorem dX10_laysBack_12 : decode cX10_laysBack 12 = .ok (.iload_n 1, 1) := by decide +kernel
theorem dX10_laysBack_13 : decode cX10_laysBack 13 = .ok (.aload_n 0, 1) := by decide +kernel
theorem dX10_laysBack_14 : decode cX10_laysBack 14 = .ok (.getfield 49, 3) := by decide +kernel
theorem dX10_laysBack_17 : decode cX10_laysBack 17 = .ok (.iload_n 1, 1) := by decide +kernel
theorem dX10_laysBack_18 : decode cX10_laysBack 18 = .ok (.iaload, 1) := by decide +kernel
theorem dX10_laysBack_19 : decode cX10_laysBack 19 = .ok (.iastore, 1) := by decide +kernel
theorem dX10_laysBack_20 : decode cX10_laysBack 20 = .ok (.iinc 1 1, 3) := by decide +kernel
theorem dX10_laysBack_23 : decode cX10_laysBack 23 = .ok (.goto (-21), 3) := by decide +kernel
theorem dX10_laysBack_26 : decode cX10_laysBack 26 = .ok (.return_, 1) := by decide +kernel
theorem dX10_pardoned_0 : decode cX10_pardoned 0 = .ok (.aload_n 0, 1) := by decide +kernel
theorem dX10_pardoned_1 : decode cX10_pardoned 1 = .ok (.iload_n 1, 1) := by decide +kernel
theorem dX10_pardoned_2 : decode cX10_pardoned 2 = .ok (.invokevirtual 120, 3) := by decide +kernel
theorem dX10_pardoned_5 : decode cX10_pardoned 5 = .ok (.ifCond .ne 6, 3) := by decide +kernel
theorem dX10_pardoned_8 : decode cX10_pardoned 8 = .ok (.ldc 93, 2) := by decide +kernel
theorem dX10_pardoned_10 : decode cX10_pardoned 10 = .ok (.ireturn, 1) := by decide +kernel
theorem dX10_pardoned_11 : decode cX10_pardoned 11 = .ok (.aload_n 0, 1) := by decide +kernel
theorem dX10_pardoned_12 : decode cX10_pardoned 12 = .ok (.invokevirtual 200, 3) := by decide +kernel
theorem dX10_pardoned_15 : decode cX10_pardoned 15 = .ok (.aload_n 0, 1) := by decide +kernel
theorem dX10_pardoned_16 : decode cX10_pardoned 16 = .ok (.iload_n 1, 1) := by decide +kernel
theorem dX10_pardoned_17 : decode cX10_pardoned 17 = .ok (.invokevirtual 179, 3) := by decide +kernel
theorem dX10_pardoned_20 : decode cX10_pardoned 20 = .ok (.aload_n 0, 1) := by decide +kernel
theorem dX10_pardoned_21 : decode cX10_pardoned 21 = .ok (.iload_n 1, 1) := by decide +kernel
theorem dX10_pardoned_22 : decode cX10_pardoned 22 = .ok (.invokevirtual 197, 3) := by decide +kernel
theorem dX10_pardoned_25 : decode cX10_pardoned 25 = .ok (.istore_n 2, 1) := by decide +kernel
theorem dX10_pardoned_26 : decode cX10_pardoned 26 = .ok (.aload_n 0, 1) := by decide +kernel
theorem dX10_pardoned_27 : decode cX10_pardoned 27 = .ok (.invokevirtual 203, 3) := by decide +kernel
theorem dX10_pardoned_30 : decode cX10_pardoned 30 = .ok (.iload_n 2, 1) := by decide +kernel
theorem dX10_pardoned_31 : decode cX10_pardoned 31 = .ok (.ireturn, 1) := by decide +kernel
theorem dX10_behind_0 : decode cX10_behind 0 = .ok (.iload_n 1, 1) := by decide +kernel
theorem dX10_behind_1 : decode cX10_behind 1 = .ok (.i2l, 1) := by decide +kernel
theorem dX10_behind_2 : decode cX10_behind 2 = .ok (.lconst 0, 1) := by decide +kernel
theorem dX10_behind_3 : decode cX10_behind 3 = .ok (.ldc2_w 159, 3) := by decide +kernel
theorem dX10_behind_6 : decode cX10_behind 6 = .ok (.invokestatic 71, 3) := by decide +kernel
theorem dX10_behind_9 : decode cX10_behind 9 = .ok (.ifCond .eq 22, 3) := by decide +kernel
theorem dX10_behind_12 : decode cX10_behind 12 = .ok (.iload_n 2, 1) := by decide +kernel
theorem dX10_behind_13 : decode cX10_behind 13 = .ok (.ifCond .lt 18, 3) := by decide +kernel
theorem dX10_behind_16 : decode cX10_behind 16 = .ok (.iload_n 2, 1) := by decide +kernel
theorem dX10_behind_17 : decode cX10_behind 17 = .ok (.iconst 2, 1) := by decide +kernel
theorem dX10_behind_18 : decode cX10_behind 18 = .ok (.if_icmp .le 16, 3) := by decide +kernel
theorem dX10_behind_21 : decode cX10_behind 21 = .ok (.aload_n 0, 1) := by decide +kernel
theorem dX10_behind_22 : decode cX10_behind 22 = .ok (.iload_n 2, 1) := by decide +kernel
theorem dX10_behind_23 : decode cX10_behind 23 = .ok (.iconst 3, 1) := by decide +kernel
theorem dX10_behind_24 : decode cX10_behind 24 = .ok (.isub, 1) := by decide +kernel
theorem dX10_behind_25 : decode cX10_behind 25 = .ok (.invokevirtual 120, 3) := by decide +kernel
theorem dX10_behind_28 : decode cX10_behind 28 = .ok (.ifCond .ne 6, 3) := by decide +kernel
theorem dX10_behind_31 : decode cX10_behind 31 = .ok (.ldc 93, 2) := by decide +kernel
theorem dX10_behind_33 : decode cX10_behind 33 = .ok (.ireturn, 1) := by decide +kernel
theorem dX10_behind_34 : decode cX10_behind 34 = .ok (.aload_n 0, 1) := by decide +kernel
theorem dX10_behind_35 : decode cX10_behind 35 = .ok (.invokevirtual 200, 3) := by decide +kernel
theorem dX10_behind_38 : decode cX10_behind 38 = .ok (.aload_n 0, 1) := by decide +kernel
theorem dX10_behind_39 : decode cX10_behind 39 = .ok (.iload_n 1, 1) := by decide +kernel
theorem dX10_behind_40 : decode cX10_behind 40 = .ok (.invokevirtual 185, 3) := by decide +kernel
theorem dX10_behind_43 : decode cX10_behind 43 = .ok (.iload_n 2, 1) := by decide +kernel
theorem dX10_behind_44 : decode cX10_behind 44 = .ok (.iconst 3, 1) := by decide +kernel
theorem dX10_behind_45 : decode cX10_behind 45 = .ok (.if_icmp .ge 14, 3) := by decide +kernel
theorem dX10_behind_48 : decode cX10_behind 48 = .ok (.aload_n 0, 1) := by decide +kernel
theorem dX10_behind_49 : decode cX10_behind 49 = .ok (.getfield 7, 3) := by decide +kernel
theorem dX10_behind_52 : decode cX10_behind 52 = .ok (.iconst 3, 1) := by decide +kernel
theorem dX10_behind_53 : decode cX10_behind 53 = .ok (.iload_n 2, 1) := by decide +kernel
theorem dX10_behind_54 : decode cX10_behind 54 = .ok (.iadd, 1) := by decide +kernel
theorem dX10_behind_55 : decode cX10_behind 55 = .ok (.iaload, 1) := by decide +kernel
theorem dX10_behind_56 : decode cX10_behind 56 = .ok (.goto 11, 3) := by decide +kernel
theorem dX10_behind_59 : decode cX10_behind 59 = .ok (.aload_n 0, 1) := by decide +kernel
theorem dX10_behind_60 : decode cX10_behind 60 = .ok (.iload_n 2, 1) := by decide +kernel
theorem dX10_behind_61 : decode cX10_behind 61 = .ok (.iconst 3, 1) := by decide +kernel
theorem dX10_behind_62 : decode cX10_behind 62 = .ok (.isub, 1) := by decide +kernel
theorem dX10_behind_63 : decode cX10_behind 63 = .ok (.iconst 1, 1) := by decide +kernel
theorem dX10_behind_64 : decode cX10_behind 64 = .ok (.invokevirtual 114, 3) := by decide +kernel
theorem dX10_behind_67 : decode cX10_behind 67 = .ok (.istore_n 3, 1) := by decide +kernel
theorem dX10_behind_68 : decode cX10_behind 68 = .ok (.aload_n 0, 1) := by decide +kernel
theorem dX10_behind_69 : decode cX10_behind 69 = .ok (.invokevirtual 203, 3) := by decide +kernel
theorem dX10_behind_72 : decode cX10_behind 72 = .ok (.iload_n 3, 1) := by decide +kernel
theorem dX10_behind_73 : decode cX10_behind 73 = .ok (.ireturn, 1) := by decide +kernel
theorem dX10_enters_0 : decode cX10_enters 0 = .ok (.aload_n 0, 1) := by decide +kernel
theorem dX10_enters_1 : decode cX10_enters 1 = .ok (.iload_n 1, 1) := by decide +kernel
theorem dX10_enters_2 : decode cX10_enters 2 = .ok (.invokevirtual 120, 3) := by decide +kernel
theorem dX10_enters_5 : decode cX10_enters 5 = .ok (.ifCond .eq 10, 3) := by decide +kernel
theorem dX10_enters_8 : decode cX10_enters 8 = .ok (.iload_n 2, 1) := by decide +kernel
theorem dX10_enters_9 : decode cX10_enters 9 = .ok (.invokestatic 86, 3) := by decide +kernel
theorem dX10_enters_12 : decode cX10_enters 12 = .ok (.ifCond .ne 6, 3) := by decide +kernel
theorem dX10_enters_15 : decode cX10_enters 15 = .ok (.ldc 93, 2) := by decide +kernel
theorem dX10_enters_17 : decode cX10_enters 17 = .ok (.ireturn, 1) := by decide +kernel
theorem dX10_enters_18 : decode cX10_enters 18 = .ok (.aload_n 0, 1) := by decide +kernel
theorem dX10_enters_19 : decode cX10_enters 19 = .ok (.invokevirtual 200, 3) := by decide +kernel
theorem dX10_enters_22 : decode cX10_enters 22 = .ok (.iconst 0, 1) := by decide +kernel
theorem dX10_enters_23 : decode cX10_enters 23 = .ok (.istore_n 3, 1) := by decide +kernel
theorem dX10_enters_24 : decode cX10_enters 24 = .ok (.iload_n 3, 1) := by decide +kernel
theorem dX10_enters_25 : decode cX10_enters 25 = .ok (.sipush 200, 3) := by decide +kernel
theorem dX10_enters_28 : decode cX10_enters 28 = .ok (.if_icmp .gt 23, 3) := by decide +kernel
theorem dX10_enters_31 : decode cX10_enters 31 = .ok (.aload_n 0, 1) := by decide +kernel
theorem dX10_enters_32 : decode cX10_enters 32 = .ok (.iload_n 1, 1) := by decide +kernel
theorem dX10_enters_33 : decode cX10_enters 33 = .ok (.iconst 1, 1) := by decide +kernel
theorem dX10_enters_34 : decode cX10_enters 34 = .ok (.invokevirtual 114, 3) := by decide +kernel
theorem dX10_enters_37 : decode cX10_enters 37 = .ok (.iload_n 2, 1) := by decide +kernel
theorem dX10_enters_38 : decode cX10_enters 38 = .ok (.if_icmp .eq 13, 3) := by decide +kernel
theorem dX10_enters_41 : decode cX10_enters 41 = .ok (.aload_n 0, 1) := by decide +kernel
theorem dX10_enters_42 : decode cX10_enters 42 = .ok (.invokevirtual 182, 3) := by decide +kernel
theorem dX10_enters_45 : decode cX10_enters 45 = .ok (.iinc 3 1, 3) := by decide +kernel
theorem dX10_enters_48 : decode cX10_enters 48 = .ok (.goto (-24), 3) := by decide +kernel
theorem dX10_enters_51 : decode cX10_enters 51 = .ok (.aload_n 0, 1) := by decide +kernel
theorem dX10_enters_52 : decode cX10_enters 52 = .ok (.invokevirtual 203, 3) := by decide +kernel
theorem dX10_enters_55 : decode cX10_enters 55 = .ok (.iload_n 3, 1) := by decide +kernel
theorem dX10_enters_56 : decode cX10_enters 56 = .ok (.sipush 200, 3) := by decide +kernel
theorem dX10_enters_59 : decode cX10_enters 59 = .ok (.if_icmp .gt 7, 3) := by decide +kernel
theorem dX10_enters_62 : decode cX10_enters 62 = .ok (.iload_n 3, 1) := by decide +kernel
theorem dX10_enters_63 : decode cX10_enters 63 = .ok (.goto 5, 3) := by decide +kernel
theorem dX10_enters_66 : decode cX10_enters 66 = .ok (.ldc 70, 2) := by decide +kernel
theorem dX10_enters_68 : decode cX10_enters 68 = .ok (.ireturn, 1) := by decide +kernel
theorem dX10_isAsked_0 : decode cX10_isAsked 0 = .ok (.iload_n 0, 1) := by decide +kernel
theorem dX10_isAsked_1 : decode cX10_isAsked 1 = .ok (.i2l, 1) := by decide +kernel
theorem dX10_isAsked_2 : decode cX10_isAsked 2 = .ok (.lconst 1, 1) := by decide +kernel
theorem dX10_isAsked_3 : decode cX10_isAsked 3 = .ok (.ldc2_w 206, 3) := by decide +kernel
theorem dX10_isAsked_6 : decode cX10_isAsked 6 = .ok (.invokestatic 71, 3) := by decide +kernel
theorem dX10_isAsked_9 : decode cX10_isAsked 9 = .ok (.ifCond .eq 17, 3) := by decide +kernel
theorem dX10_isAsked_12 : decode cX10_isAsked 12 = .ok (.iload_n 1, 1) := by decide +kernel
theorem dX10_isAsked_13 : decode cX10_isAsked 13 = .ok (.i2l, 1) := by decide +kernel
theorem dX10_isAsked_14 : decode cX10_isAsked 14 = .ok (.lconst 0, 1) := by decide +kernel
theorem dX10_isAsked_15 : decode cX10_isAsked 15 = .ok (.lconst 1, 1) := by decide +kernel
theorem dX10_isAsked_16 : decode cX10_isAsked 16 = .ok (.invokestatic 71, 3) := by decide +kernel
theorem dX10_isAsked_19 : decode cX10_isAsked 19 = .ok (.ifCond .eq 7, 3) := by decide +kernel
theorem dX10_isAsked_22 : decode cX10_isAsked 22 = .ok (.iconst 1, 1) := by decide +kernel
theorem dX10_isAsked_23 : decode cX10_isAsked 23 = .ok (.goto 4, 3) := by decide +kernel
theorem dX10_isAsked_26 : decode cX10_isAsked 26 = .ok (.iconst 0, 1) := by decide +kernel
theorem dX10_isAsked_27 : decode cX10_isAsked 27 = .ok (.ireturn, 1) := by decide +kernel
theorem dX10_freed_0 : decode cX10_freed 0 = .ok (.iload_n 1, 1) := by decide +kernel
theorem dX10_freed_1 : decode cX10_freed 1 = .ok (.iload_n 2, 1) := by decide +kernel
theorem dX10_freed_2 : decode cX10_freed 2 = .ok (.invokestatic 208, 3) := by decide +kernel
theorem dX10_freed_5 : decode cX10_freed 5 = .ok (.ifCond .ne 6, 3) := by decide +kernel
theorem dX10_freed_8 : decode cX10_freed 8 = .ok (.ldc 93, 2) := by decide +kernel
theorem dX10_freed_10 : decode cX10_freed 10 = .ok (.ireturn, 1) := by decide +kernel
theorem dX10_freed_11 : decode cX10_freed 11 = .ok (.aload_n 0, 1) := by decide +kernel
theorem dX10_freed_12 : decode cX10_freed 12 = .ok (.invokevirtual 200, 3) := by decide +kernel
theorem dX10_freed_15 : decode cX10_freed 15 = .ok (.iconst (-1), 1) := by decide +kernel
theorem dX10_freed_16 : decode cX10_freed 16 = .ok (.istore_n 3, 1) := by decide +kernel
theorem dX10_freed_17 : decode cX10_freed 17 = .ok (.iconst (-1), 1) := by decide +kernel
theorem dX10_freed_18 : decode cX10_freed 18 = .ok (.istore 4, 2) := by decide +kernel
theorem dX10_freed_20 : decode cX10_freed 20 = .ok (.iconst 0, 1) := by decide +kernel
theorem dX10_freed_21 : decode cX10_freed 21 = .ok (.istore 5, 2) := by decide +kernel
theorem dX10_freed_23 : decode cX10_freed 23 = .ok (.iload 5, 2) := by decide +kernel
theorem dX10_freed_25 : decode cX10_freed 25 = .ok (.aload_n 0, 1) := by decide +kernel
theorem dX10_freed_26 : decode cX10_freed 26 = .ok (.getfield 7, 3) := by decide +kernel
theorem dX10_freed_29 : decode cX10_freed 29 = .ok (.bipush 8, 2) := by decide +kernel
theorem dX10_freed_31 : decode cX10_freed 31 = .ok (.iaload, 1) := by decide +kernel
theorem dX10_freed_32 : decode cX10_freed 32 = .ok (.if_icmp .ge 71, 3) := by decide +kernel
theorem dX10_freed_35 : decode cX10_freed 35 = .ok (.aload_n 0, 1) := by decide +kernel
theorem dX10_freed_36 : decode cX10_freed 36 = .ok (.getfield 7, 3) := by decide +kernel
theorem dX10_freed_39 : decode cX10_freed 39 = .ok (.bipush 50, 2) := by decide +kernel
theorem dX10_freed_41 : decode cX10_freed 41 = .ok (.iconst 5, 1) := by decide +kernel
theorem dX10_freed_42 : decode cX10_freed 42 = .ok (.iload 5, 2) := by decide +kernel
theorem dX10_freed_44 : decode cX10_freed 44 = .ok (.imul, 1) := by decide +kernel
theorem dX10_freed_45 : decode cX10_freed 45 = .ok (.iadd, 1) := by decide +kernel
theorem dX10_freed_46 : decode cX10_freed 46 = .ok (.iconst 3, 1) := by decide +kernel
theorem dX10_freed_47 : decode cX10_freed 47 = .ok (.iadd, 1) := by decide +kernel
theorem dX10_freed_48 : decode cX10_freed 48 = .ok (.iconst 0, 1) := by decide +kernel
theorem dX10_freed_49 : decode cX10_freed 49 = .ok (.iastore, 1) := by decide +kernel
theorem dX10_freed_50 : decode cX10_freed 50 = .ok (.aload_n 0, 1) := by decide +kernel
theorem dX10_freed_51 : decode cX10_freed 51 = .ok (.iload_n 1, 1) := by decide +kernel
theorem dX10_freed_52 : decode cX10_freed 52 = .ok (.invokevirtual 185, 3) := by decide +kernel
theorem dX10_freed_55 : decode cX10_freed 55 = .ok (.aload_n 0, 1) := by decide +kernel
theorem dX10_freed_56 : decode cX10_freed 56 = .ok (.getfield 7, 3) := by decide +kernel
theorem dX10_freed_59 : decode cX10_freed 59 = .ok (.iconst 3, 1) := by decide +kernel
theorem dX10_freed_60 : decode cX10_freed 60 = .ok (.iaload, 1) := by decide +kernel
theorem dX10_freed_61 : decode cX10_freed 61 = .ok (.istore 6, 2) := by decide +kernel
theorem dX10_freed_63 : decode cX10_freed 63 = .ok (.aload_n 0, 1) := by decide +kernel
theorem dX10_freed_64 : decode cX10_freed 64 = .ok (.invokevirtual 203, 3) := by decide +kernel
theorem dX10_freed_67 : decode cX10_freed 67 = .ok (.iload 6, 2) := by decide +kernel
theorem dX10_freed_69 : decode cX10_freed 69 = .ok (.iload 4, 2) := by decide +kernel
theorem dX10_freed_71 : decode cX10_freed 71 = .ok (.if_icmp .le 8, 3) := by decide +kernel
theorem dX10_freed_74 : decode cX10_freed 74 = .ok (.iload 5, 2) := by decide +kernel
theorem dX10_freed_76 : decode cX10_freed 76 = .ok (.goto 4, 3) := by decide +kernel
theorem dX10_freed_79 : decode cX10_freed 79 = .ok (.iload_n 3, 1) := by decide +kernel
theorem dX10_freed_80 : decode cX10_freed 80 = .ok (.istore_n 3, 1) := by decide +kernel
theorem dX10_freed_81 : decode cX10_freed 81 = .ok (.iload 6, 2) := by decide +kernel
theorem dX10_freed_83 : decode cX10_freed 83 = .ok (.iload 4, 2) := by decide +kernel
theorem dX10_freed_85 : decode cX10_freed 85 = .ok (.if_icmp .le 8, 3) := by decide +kernel
theorem dX10_freed_88 : decode cX10_freed 88 = .ok (.iload 6, 2) := by decide +kernel
theorem dX10_freed_90 : decode cX10_freed 90 = .ok (.goto 5, 3) := by decide +kernel
theorem dX10_freed_93 : decode cX10_freed 93 = .ok (.iload 4, 2) := by decide +kernel
theorem dX10_freed_95 : decode cX10_freed 95 = .ok (.istore 4, 2) := by decide +kernel
theorem dX10_freed_97 : decode cX10_freed 97 = .ok (.iinc 5 1, 3) := by decide +kernel
theorem dX10_freed_100 : decode cX10_freed 100 = .ok (.goto (-77), 3) := by decide +kernel
theorem dX10_freed_103 : decode cX10_freed 103 = .ok (.iload_n 3, 1) := by decide +kernel
theorem dX10_freed_104 : decode cX10_freed 104 = .ok (.ifCond .ge 8, 3) := by decide +kernel
theorem dX10_freed_107 : decode cX10_freed 107 = .ok (.ldc 70, 2) := by decide +kernel
theorem dX10_freed_109 : decode cX10_freed 109 = .ok (.goto 13, 3) := by decide +kernel
theorem dX10_freed_112 : decode cX10_freed 112 = .ok (.iload_n 2, 1) := by decide +kernel
theorem dX10_freed_113 : decode cX10_freed 113 = .ok (.ifCond .ne 7, 3) := by decide +kernel
theorem dX10_freed_116 : decode cX10_freed 116 = .ok (.iload_n 3, 1) := by decide +kernel
theorem dX10_freed_117 : decode cX10_freed 117 = .ok (.goto 5, 3) := by decide +kernel
theorem dX10_freed_120 : decode cX10_freed 120 = .ok (.iload 4, 2) := by decide +kernel
theorem dX10_freed_122 : decode cX10_freed 122 = .ok (.ireturn, 1) := by decide +kernel
theorem dX10_becomes_0 : decode cX10_becomes 0 = .ok (.aload_n 0, 1) := by decide +kernel
theorem dX10_becomes_1 : decode cX10_becomes 1 = .ok (.iload_n 1, 1) := by decide +kernel
theorem dX10_becomes_2 : decode cX10_becomes 2 = .ok (.invokevirtual 120, 3) := by decide +kernel
theorem dX10_becomes_5 : decode cX10_becomes 5 = .ok (.ifCond .eq 11, 3) := by decide +kernel
theorem dX10_becomes_8 : decode cX10_becomes 8 = .ok (.iload_n 2, 1) := by decide +kernel
theorem dX10_becomes_9 : decode cX10_becomes 9 = .ok (.iload_n 3, 1) := by decide +kernel
theorem dX10_becomes_10 : decode cX10_becomes 10 = .ok (.invokestatic 208, 3) := by decide +kernel
theorem dX10_becomes_13 : decode cX10_becomes 13 = .ok (.ifCond .ne 6, 3) := by decide +kernel
theorem dX10_becomes_16 : decode cX10_becomes 16 = .ok (.ldc 93, 2) := by decide +kernel
theorem dX10_becomes_18 : decode cX10_becomes 18 = .ok (.ireturn, 1) := by decide +kernel
theorem dX10_becomes_19 : decode cX10_becomes 19 = .ok (.aload_n 0, 1) := by decide +kernel
theorem dX10_becomes_20 : decode cX10_becomes 20 = .ok (.invokevirtual 200, 3) := by decide +kernel
theorem dX10_becomes_23 : decode cX10_becomes 23 = .ok (.iconst 0, 1) := by decide +kernel
theorem dX10_becomes_24 : decode cX10_becomes 24 = .ok (.istore 4, 2) := by decide +kernel
theorem dX10_becomes_26 : decode cX10_becomes 26 = .ok (.iconst (-1), 1) := by decide +kernel
theorem dX10_becomes_27 : decode cX10_becomes 27 = .ok (.istore 5, 2) := by decide +kernel
theorem dX10_becomes_29 : decode cX10_becomes 29 = .ok (.iconst 0, 1) := by decide +kernel
theorem dX10_becomes_30 : decode cX10_becomes 30 = .ok (.istore 6, 2) := by decide +kernel
theorem dX10_becomes_32 : decode cX10_becomes 32 = .ok (.iload 6, 2) := by decide +kernel
theorem dX10_becomes_34 : decode cX10_becomes 34 = .ok (.bipush 6, 2) := by decide +kernel
theorem dX10_becomes_36 : decode cX10_becomes 36 = .ok (.if_icmp .ge 66, 3) := by decide +kernel
theorem dX10_becomes_39 : decode cX10_becomes 39 = .ok (.aload_n 0, 1) := by decide +kernel
theorem dX10_becomes_40 : decode cX10_becomes 40 = .ok (.iload_n 1, 1) := by decide +kernel
theorem dX10_becomes_41 : decode cX10_becomes 41 = .ok (.iconst 0, 1) := by decide +kernel
theorem dX10_becomes_42 : decode cX10_becomes 42 = .ok (.iload 6, 2) := by decide +kernel
theorem dX10_becomes_44 : decode cX10_becomes 44 = .ok (.invokevirtual 80, 3) := by decide +kernel
theorem dX10_becomes_47 : decode cX10_becomes 47 = .ok (.aload_n 0, 1) := by decide +kernel
theorem dX10_becomes_48 : decode cX10_becomes 48 = .ok (.iload_n 2, 1) := by decide +kernel
theorem dX10_becomes_49 : decode cX10_becomes 49 = .ok (.invokevirtual 185, 3) := by decide +kernel
theorem dX10_becomes_52 : decode cX10_becomes 52 = .ok (.aload_n 0, 1) := by decide +kernel
theorem dX10_becomes_53 : decode cX10_becomes 53 = .ok (.getfield 7, 3) := by decide +kernel
theorem dX10_becomes_56 : decode cX10_becomes 56 = .ok (.iconst 3, 1) := by decide +kernel
theorem dX10_becomes_57 : decode cX10_becomes 57 = .ok (.iaload, 1) := by decide +kernel
theorem dX10_becomes_58 : decode cX10_becomes 58 = .ok (.istore 7, 2) := by decide +kernel
theorem dX10_becomes_60 : decode cX10_becomes 60 = .ok (.aload_n 0, 1) := by decide +kernel
theorem dX10_becomes_61 : decode cX10_becomes 61 = .ok (.invokevirtual 203, 3) := by decide +kernel
theorem dX10_becomes_64 : decode cX10_becomes 64 = .ok (.iload 7, 2) := by decide +kernel
theorem dX10_becomes_66 : decode cX10_becomes 66 = .ok (.iload 5, 2) := by decide +kernel
theorem dX10_becomes_68 : decode cX10_becomes 68 = .ok (.if_icmp .le 8, 3) := by decide +kernel
theorem dX10_becomes_71 : decode cX10_becomes 71 = .ok (.iload 6, 2) := by decide +kernel
theorem dX10_becomes_73 : decode cX10_becomes 73 = .ok (.goto 5, 3) := by decide +kernel
theorem dX10_becomes_76 : decode cX10_becomes 76 = .ok (.iload 4, 2) := by decide +kernel
theorem dX10_becomes_78 : decode cX10_becomes 78 = .ok (.istore 4, 2) := by decide +kernel
theorem dX10_becomes_80 : decode cX10_becomes 80 = .ok (.iload 7, 2) := by decide +kernel
theorem dX10_becomes_82 : decode cX10_becomes 82 = .ok (.iload 5, 2) := by decide +kernel
theorem dX10_becomes_84 : decode cX10_becomes 84 = .ok (.if_icmp .le 8, 3) := by decide +kernel
theorem dX10_becomes_87 : decode cX10_becomes 87 = .ok (.iload 7, 2) := by decide +kernel
theorem dX10_becomes_89 : decode cX10_becomes 89 = .ok (.goto 5, 3) := by decide +kernel
theorem dX10_becomes_92 : decode cX10_becomes 92 = .ok (.iload 5, 2) := by decide +kernel
theorem dX10_becomes_94 : decode cX10_becomes 94 = .ok (.istore 5, 2) := by decide +kernel
theorem dX10_becomes_96 : decode cX10_becomes 96 = .ok (.iinc 6 1, 3) := by decide +kernel
theorem dX10_becomes_99 : decode cX10_becomes 99 = .ok (.goto (-67), 3) := by decide +kernel
theorem dX10_becomes_102 : decode cX10_becomes 102 = .ok (.iload_n 3, 1) := by decide +kernel
theorem dX10_becomes_103 : decode cX10_becomes 103 = .ok (.ifCond .ne 8, 3) := by decide +kernel
theorem dX10_becomes_106 : decode cX10_becomes 106 = .ok (.iload 4, 2) := by decide +kernel
theorem dX10_becomes_108 : decode cX10_becomes 108 = .ok (.goto 5, 3) := by decide +kernel
theorem dX10_becomes_111 : decode cX10_becomes 111 = .ok (.iload 5, 2) := by decide +kernel
theorem dX10_becomes_113 : decode cX10_becomes 113 = .ok (.ireturn, 1) := by decide +kernel
theorem dX10_fee_0 : decode cX10_fee 0 = .ok (.aload_n 0, 1) := by decide +kernel
theorem dX10_fee_1 : decode cX10_fee 1 = .ok (.iconst 1, 1) := by decide +kernel
theorem dX10_fee_2 : decode cX10_fee 2 = .ok (.invokevirtual 99, 3) := by decide +kernel
theorem dX10_fee_5 : decode cX10_fee 5 = .ok (.istore_n 1, 1) := by decide +kernel
theorem dX10_fee_6 : decode cX10_fee 6 = .ok (.iload_n 1, 1) := by decide +kernel
theorem dX10_fee_7 : decode cX10_fee 7 = .ok (.ifCond .ge 10, 3) := by decide +kernel
theorem dX10_fee_10 : decode cX10_fee 10 = .ok (.aload_n 0, 1) := by decide +kernel
theorem dX10_fee_11 : decode cX10_fee 11 = .ok (.getfield 7, 3) := by decide +kernel
theorem dX10_fee_14 : decode cX10_fee 14 = .ok (.iconst 3, 1) := by decide +kernel
theorem dX10_fee_15 : decode cX10_fee 15 = .ok (.iaload, 1) := by decide +kernel
theorem dX10_fee_16 : decode cX10_fee 16 = .ok (.ireturn, 1) := by decide +kernel
theorem dX10_fee_17 : decode cX10_fee 17 = .ok (.aload_n 0, 1) := by decide +kernel
theorem dX10_fee_18 : decode cX10_fee 18 = .ok (.getfield 55, 3) := by decide +kernel
theorem dX10_fee_21 : decode cX10_fee 21 = .ok (.bipush 101, 2) := by decide +kernel
theorem dX10_fee_23 : decode cX10_fee 23 = .ok (.aload_n 0, 1) := by decide +kernel
theorem dX10_fee_24 : decode cX10_fee 24 = .ok (.getfield 7, 3) := by decide +kernel
theorem dX10_fee_27 : decode cX10_fee 27 = .ok (.iconst 3, 1) := by decide +kernel
theorem dX10_fee_28 : decode cX10_fee 28 = .ok (.iaload, 1) := by decide +kernel
theorem dX10_fee_29 : decode cX10_fee 29 = .ok (.iastore, 1) := by decide +kernel
theorem dX10_fee_30 : decode cX10_fee 30 = .ok (.aload_n 0, 1) := by decide +kernel
theorem dX10_fee_31 : decode cX10_fee 31 = .ok (.getfield 55, 3) := by decide +kernel
theorem dX10_fee_34 : decode cX10_fee 34 = .ok (.bipush 104, 2) := by decide +kernel
theorem dX10_fee_36 : decode cX10_fee 36 = .ok (.aload_n 0, 1) := by decide +kernel
theorem dX10_fee_37 : decode cX10_fee 37 = .ok (.getfield 7, 3) := by decide +kernel
theorem dX10_fee_40 : decode cX10_fee 40 = .ok (.iconst 4, 1) := by decide +kernel
theorem dX10_fee_41 : decode cX10_fee 41 = .ok (.iaload, 1) := by decide +kernel
theorem dX10_fee_42 : decode cX10_fee 42 = .ok (.iastore, 1) := by decide +kernel
theorem dX10_fee_43 : decode cX10_fee 43 = .ok (.aload_n 0, 1) := by decide +kernel
theorem dX10_fee_44 : decode cX10_fee 44 = .ok (.iload_n 1, 1) := by decide +kernel
theorem dX10_fee_45 : decode cX10_fee 45 = .ok (.invokevirtual 103, 3) := by decide +kernel
theorem dX10_fee_48 : decode cX10_fee 48 = .ok (.ireturn, 1) := by decide +kernel
theorem dX10_fine_0 : decode cX10_fine 0 = .ok (.aload_n 0, 1) := by decide +kernel
theorem dX10_fine_1 : decode cX10_fine 1 = .ok (.iload_n 1, 1) := by decide +kernel
theorem dX10_fine_2 : decode cX10_fine 2 = .ok (.invokevirtual 120, 3) := by decide +kernel
theorem dX10_fine_5 : decode cX10_fine 5 = .ok (.ifCond .ne 6, 3) := by decide +kernel
theorem dX10_fine_8 : decode cX10_fine 8 = .ok (.ldc 93, 2) := by decide +kernel
theorem dX10_fine_10 : decode cX10_fine 10 = .ok (.ireturn, 1) := by decide +kernel
theorem dX10_fine_11 : decode cX10_fine 11 = .ok (.aload_n 0, 1) := by decide +kernel
theorem dX10_fine_12 : decode cX10_fine 12 = .ok (.iconst 2, 1) := by decide +kernel
theorem dX10_fine_13 : decode cX10_fine 13 = .ok (.invokevirtual 99, 3) := by decide +kernel
theorem dX10_fine_16 : decode cX10_fine 16 = .ok (.istore_n 2, 1) := by decide +kernel
theorem dX10_fine_17 : decode cX10_fine 17 = .ok (.iload_n 2, 1) := by decide +kernel
theorem dX10_fine_18 : decode cX10_fine 18 = .ok (.ifCond .ge 9, 3) := by decide +kernel
theorem dX10_fine_21 : decode cX10_fine 21 = .ok (.aload_n 0, 1) := by decide +kernel
theorem dX10_fine_22 : decode cX10_fine 22 = .ok (.iload_n 1, 1) := by decide +kernel
theorem dX10_fine_23 : decode cX10_fine 23 = .ok (.invokevirtual 117, 3) := by decide +kernel
theorem dX10_fine_26 : decode cX10_fine 26 = .ok (.ireturn, 1) := by decide +kernel
theorem dX10_fine_27 : decode cX10_fine 27 = .ok (.aload_n 0, 1) := by decide +kernel
theorem dX10_fine_28 : decode cX10_fine 28 = .ok (.getfield 55, 3) := by decide +kernel
theorem dX10_fine_31 : decode cX10_fine 31 = .ok (.bipush 114, 2) := by decide +kernel
theorem dX10_fine_33 : decode cX10_fine 33 = .ok (.aload_n 0, 1) := by decide +kernel
theorem dX10_fine_34 : decode cX10_fine 34 = .ok (.iload_n 1, 1) := by decide +kernel
theorem dX10_fine_35 : decode cX10_fine 35 = .ok (.invokevirtual 117, 3) := by decide +kernel
theorem dX10_fine_38 : decode cX10_fine 38 = .ok (.iastore, 1) := by decide +kernel
theorem dX10_fine_39 : decode cX10_fine 39 = .ok (.aload_n 0, 1) := by decide +kernel
theorem dX10_fine_40 : decode cX10_fine 40 = .ok (.getfield 55, 3) := by decide +kernel
theorem dX10_fine_43 : decode cX10_fine 43 = .ok (.bipush 111, 2) := by decide +kernel
theorem dX10_fine_45 : decode cX10_fine 45 = .ok (.aload_n 0, 1) := by decide +kernel
theorem dX10_fine_46 : decode cX10_fine 46 = .ok (.iload_n 1, 1) := by decide +kernel
theorem dX10_fine_47 : decode cX10_fine 47 = .ok (.iconst 1, 1) := by decide +kernel
theorem dX10_fine_48 : decode cX10_fine 48 = .ok (.invokevirtual 114, 3) := by decide +kernel
theorem dX10_fine_51 : decode cX10_fine 51 = .ok (.iastore, 1) := by decide +kernel
theorem dX10_fine_52 : decode cX10_fine 52 = .ok (.aload_n 0, 1) := by decide +kernel
theorem dX10_fine_53 : decode cX10_fine 53 = .ok (.iload_n 2, 1) := by decide +kernel
theorem dX10_fine_54 : decode cX10_fine 54 = .ok (.invokevirtual 103, 3) := by decide +kernel
theorem dX10_fine_57 : decode cX10_fine 57 = .ok (.ireturn, 1) := by decide +kernel
theorem dX10_feed_0 : decode cX10_feed 0 = .ok (.aload_n 0, 1) := by decide +kernel
theorem dX10_feed_1 : decode cX10_feed 1 = .ok (.getfield 211, 3) := by decide +kernel
theorem dX10_feed_4 : decode cX10_feed 4 = .ok (.bipush 12, 2) := by decide +kernel
theorem dX10_feed_6 : decode cX10_feed 6 = .ok (.iadd, 1) := by decide +kernel
theorem dX10_feed_7 : decode cX10_feed 7 = .ok (.bipush 96, 2) := by decide +kernel
theorem dX10_feed_9 : decode cX10_feed 9 = .ok (.if_icmp .le 6, 3) := by decide +kernel
theorem dX10_feed_12 : decode cX10_feed 12 = .ok (.ldc 94, 2) := by decide +kernel
theorem dX10_feed_14 : decode cX10_feed 14 = .ok (.ireturn, 1) := by decide +kernel
theorem dX10_feed_15 : decode cX10_feed 15 = .ok (.iconst 0, 1) := by decide +kernel
theorem dX10_feed_16 : decode cX10_feed 16 = .ok (.istore 4, 2) := by decide +kernel
theorem dX10_feed_18 : decode cX10_feed 18 = .ok (.iload 4, 2) := by decide +kernel
theorem dX10_feed_20 : decode cX10_feed 20 = .ok (.bipush 12, 2) := by decide +kernel
theorem dX10_feed_22 : decode cX10_feed 22 = .ok (.if_icmp .ge 69, 3) := by decide +kernel
theorem dX10_feed_25 : decode cX10_feed 25 = .ok (.iload 4, 2) := by decide +kernel
theorem dX10_feed_27 : decode cX10_feed 27 = .ok (.iconst 4, 1) := by decide +kernel
theorem dX10_feed_28 : decode cX10_feed 28 = .ok (.if_icmp .ge 7, 3) := by decide +kernel
theorem dX10_feed_31 : decode cX10_feed 31 = .ok (.iload_n 1, 1) := by decide +kernel
theorem dX10_feed_32 : decode cX10_feed 32 = .ok (.goto 15, 3) := by decide +kernel
theorem dX10_feed_35 : decode cX10_feed 35 = .ok (.iload 4, 2) := by decide +kernel
theorem dX10_feed_37 : decode cX10_feed 37 = .ok (.bipush 8, 2) := by decide +kernel
theorem dX10_feed_39 : decode cX10_feed 39 = .ok (.if_icmp .ge 7, 3) := by decide +kernel
theorem dX10_feed_42 : decode cX10_feed 42 = .ok (.iload_n 2, 1) := by decide +kernel
theorem dX10_feed_43 : decode cX10_feed 43 = .ok (.goto 4, 3) := by decide +kernel
theorem dX10_feed_46 : decode cX10_feed 46 = .ok (.iload_n 3, 1) := by decide +kernel
theorem dX10_feed_47 : decode cX10_feed 47 = .ok (.istore 5, 2) := by decide +kernel
theorem dX10_feed_49 : decode cX10_feed 49 = .ok (.aload_n 0, 1) := by decide +kernel
theorem dX10_feed_50 : decode cX10_feed 50 = .ok (.getfield 52, 3) := by decide +kernel
theorem dX10_feed_53 : decode cX10_feed 53 = .ok (.aload_n 0, 1) := by decide +kernel
theorem dX10_feed_54 : decode cX10_feed 54 = .ok (.getfield 211, 3) := by decide +kernel
theorem dX10_feed_57 : decode cX10_feed 57 = .ok (.iload 5, 2) := by decide +kernel
theorem dX10_feed_59 : decode cX10_feed 59 = .ok (.bipush 24, 2) := by decide +kernel
theorem dX10_feed_61 : decode cX10_feed 61 = .ok (.bipush 8, 2) := by decide +kernel
theorem dX10_feed_63 : decode cX10_feed 63 = .ok (.iload 4, 2) := by decide +kernel
theorem dX10_feed_65 : decode cX10_feed 65 = .ok (.iconst 4, 1) := by decide +kernel
theorem dX10_feed_66 : decode cX10_feed 66 = .ok (.irem, 1) := by decide +kernel
theorem dX10_feed_67 : decode cX10_feed 67 = .ok (.imul, 1) := by decide +kernel
theorem dX10_feed_68 : decode cX10_feed 68 = .ok (.isub, 1) := by decide +kernel
theorem dX10_feed_69 : decode cX10_feed 69 = .ok (.ishr, 1) := by decide +kernel
theorem dX10_feed_70 : decode cX10_feed 70 = .ok (.sipush 255, 3) := by decide +kernel
theorem dX10_feed_73 : decode cX10_feed 73 = .ok (.iand, 1) := by decide +kernel
theorem dX10_feed_74 : decode cX10_feed 74 = .ok (.iastore, 1) := by decide +kernel
theorem dX10_feed_75 : decode cX10_feed 75 = .ok (.aload_n 0, 1) := by decide +kernel
theorem dX10_feed_76 : decode cX10_feed 76 = .ok (.dup, 1) := by decide +kernel
theorem dX10_feed_77 : decode cX10_feed 77 = .ok (.getfield 211, 3) := by decide +kernel
theorem dX10_feed_80 : decode cX10_feed 80 = .ok (.iconst 1, 1) := by decide +kernel
theorem dX10_feed_81 : decode cX10_feed 81 = .ok (.iadd, 1) := by decide +kernel
theorem dX10_feed_82 : decode cX10_feed 82 = .ok (.putfield 211, 3) := by decide +kernel
theorem dX10_feed_85 : decode cX10_feed 85 = .ok (.iinc 4 1, 3) := by decide +kernel
theorem dX10_feed_88 : decode cX10_feed 88 = .ok (.goto (-70), 3) := by decide +kernel
theorem dX10_feed_91 : decode cX10_feed 91 = .ok (.aload_n 0, 1) := by decide +kernel
theorem dX10_feed_92 : decode cX10_feed 92 = .ok (.getfield 211, 3) := by decide +kernel
theorem dX10_feed_95 : decode cX10_feed 95 = .ok (.ireturn, 1) := by decide +kernel
theorem dX10_trim_0 : decode cX10_trim 0 = .ok (.iload_n 1, 1) := by decide +kernel
theorem dX10_trim_1 : decode cX10_trim 1 = .ok (.i2l, 1) := by decide +kernel
theorem dX10_trim_2 : decode cX10_trim 2 = .ok (.lconst 0, 1) := by decide +kernel
theorem dX10_trim_3 : decode cX10_trim 3 = .ok (.aload_n 0, 1) := by decide +kernel
theorem dX10_trim_4 : decode cX10_trim 4 = .ok (.getfield 211, 3) := by decide +kernel
theorem dX10_trim_7 : decode cX10_trim 7 = .ok (.i2l, 1) := by decide +kernel
theorem dX10_trim_8 : decode cX10_trim 8 = .ok (.invokestatic 71, 3) := by decide +kernel
