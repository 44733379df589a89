theorem dX9_lots_231 : decode cX9_lots 231 = .ok (.getfield 87, 3) := by decide +kernel
theorem dX9_lots_234 : decode cX9_lots 234 = .ok (.if_icmp .ge 55, 3) := by decide +kernel
theorem dX9_lots_237 : decode cX9_lots 237 = .ok (.aload_n 0, 1) := by decide +kernel
theorem dX9_lots_238 : decode cX9_lots 238 = .ok (.aload_n 0, 1) := by decide +kernel
theorem dX9_lots_239 : decode cX9_lots 239 = .ok (.getfield 44, 3) := by decide +kernel
theorem dX9_lots_242 : decode cX9_lots 242 = .ok (.iconst 3, 1) := by decide +kernel
theorem dX9_lots_243 : decode cX9_lots 243 = .ok (.iload 6, 2) := by decide +kernel
theorem dX9_lots_245 : decode cX9_lots 245 = .ok (.imul, 1) := by decide +kernel
theorem dX9_lots_246 : decode cX9_lots 246 = .ok (.iaload, 1) := by decide +kernel
theorem dX9_lots_247 : decode cX9_lots 247 = .ok (.aload_n 0, 1) := by decide +kernel
theorem dX9_lots_248 : decode cX9_lots 248 = .ok (.getfield 44, 3) := by decide +kernel
theorem dX9_lots_251 : decode cX9_lots 251 = .ok (.iconst 3, 1) := by decide +kernel
theorem dX9_lots_252 : decode cX9_lots 252 = .ok (.iload 6, 2) := by decide +kernel
theorem dX9_lots_254 : decode cX9_lots 254 = .ok (.imul, 1) := by decide +kernel
theorem dX9_lots_255 : decode cX9_lots 255 = .ok (.iconst 1, 1) := by decide +kernel
theorem dX9_lots_256 : decode cX9_lots 256 = .ok (.iadd, 1) := by decide +kernel
theorem dX9_lots_257 : decode cX9_lots 257 = .ok (.iaload, 1) := by decide +kernel
theorem dX9_lots_258 : decode cX9_lots 258 = .ok (.isub, 1) := by decide +kernel
theorem dX9_lots_259 : decode cX9_lots 259 = .ok (.invokevirtual 129, 3) := by decide +kernel
theorem dX9_lots_262 : decode cX9_lots 262 = .ok (.istore 7, 2) := by decide +kernel
theorem dX9_lots_264 : decode cX9_lots 264 = .ok (.iload 5, 2) := by decide +kernel
theorem dX9_lots_266 : decode cX9_lots 266 = .ok (.iconst 1, 1) := by decide +kernel
theorem dX9_lots_267 : decode cX9_lots 267 = .ok (.iload 7, 2) := by decide +kernel
theorem dX9_lots_269 : decode cX9_lots 269 = .ok (.ishl, 1) := by decide +kernel
theorem dX9_lots_270 : decode cX9_lots 270 = .ok (.iconst 1, 1) := by decide +kernel
theorem dX9_lots_271 : decode cX9_lots 271 = .ok (.aload_n 0, 1) := by decide +kernel
theorem dX9_lots_272 : decode cX9_lots 272 = .ok (.getfield 7, 3) := by decide +kernel
theorem dX9_lots_275 : decode cX9_lots 275 = .ok (.iload 7, 2) := by decide +kernel
theorem dX9_lots_277 : decode cX9_lots 277 = .ok (.isub, 1) := by decide +kernel
theorem dX9_lots_278 : decode cX9_lots 278 = .ok (.ishl, 1) := by decide +kernel
theorem dX9_lots_279 : decode cX9_lots 279 = .ok (.ior, 1) := by decide +kernel
theorem dX9_lots_280 : decode cX9_lots 280 = .ok (.ior, 1) := by decide +kernel
theorem dX9_lots_281 : decode cX9_lots 281 = .ok (.istore 5, 2) := by decide +kernel
theorem dX9_lots_283 : decode cX9_lots 283 = .ok (.iinc 6 1, 3) := by decide +kernel
theorem dX9_lots_286 : decode cX9_lots 286 = .ok (.goto (-58), 3) := by decide +kernel
theorem dX9_lots_289 : decode cX9_lots 289 = .ok (.iload_n 3, 1) := by decide +kernel
theorem dX9_lots_290 : decode cX9_lots 290 = .ok (.ifCond .ne 8, 3) := by decide +kernel
theorem dX9_lots_293 : decode cX9_lots 293 = .ok (.iload 4, 2) := by decide +kernel
theorem dX9_lots_295 : decode cX9_lots 295 = .ok (.goto 8, 3) := by decide +kernel
theorem dX9_lots_298 : decode cX9_lots 298 = .ok (.iload 5, 2) := by decide +kernel
theorem dX9_lots_300 : decode cX9_lots 300 = .ok (.invokestatic 149, 3) := by decide +kernel
theorem dX9_lots_303 : decode cX9_lots 303 = .ok (.ireturn, 1) := by decide +kernel
theorem dX9_turn_0 : decode cX9_turn 0 = .ok (.iload_n 1, 1) := by decide +kernel
theorem dX9_turn_1 : decode cX9_turn 1 = .ok (.i2l, 1) := by decide +kernel
theorem dX9_turn_2 : decode cX9_turn 2 = .ok (.lconst 0, 1) := by decide +kernel
theorem dX9_turn_3 : decode cX9_turn 3 = .ok (.ldc2_w 229, 3) := by decide +kernel
theorem dX9_turn_6 : decode cX9_turn 6 = .ok (.invokestatic 98, 3) := by decide +kernel
theorem dX9_turn_9 : decode cX9_turn 9 = .ok (.ifCond .ne 10, 3) := by decide +kernel
theorem dX9_turn_12 : decode cX9_turn 12 = .ok (.aload_n 0, 1) := by decide +kernel
theorem dX9_turn_13 : decode cX9_turn 13 = .ok (.bipush (-2), 2) := by decide +kernel
theorem dX9_turn_15 : decode cX9_turn 15 = .ok (.invokevirtual 90, 3) := by decide +kernel
theorem dX9_turn_18 : decode cX9_turn 18 = .ok (.ireturn, 1) := by decide +kernel
theorem dX9_turn_19 : decode cX9_turn 19 = .ok (.iload_n 2, 1) := by decide +kernel
theorem dX9_turn_20 : decode cX9_turn 20 = .ok (.ifCond .ge 10, 3) := by decide +kernel
theorem dX9_turn_23 : decode cX9_turn 23 = .ok (.aload_n 0, 1) := by decide +kernel
theorem dX9_turn_24 : decode cX9_turn 24 = .ok (.bipush (-4), 2) := by decide +kernel
theorem dX9_turn_26 : decode cX9_turn 26 = .ok (.invokevirtual 90, 3) := by decide +kernel
theorem dX9_turn_29 : decode cX9_turn 29 = .ok (.ireturn, 1) := by decide +kernel
theorem dX9_turn_30 : decode cX9_turn 30 = .ok (.iload_n 2, 1) := by decide +kernel
theorem dX9_turn_31 : decode cX9_turn 31 = .ok (.bipush 12, 2) := by decide +kernel
theorem dX9_turn_33 : decode cX9_turn 33 = .ok (.if_icmp .gt 12, 3) := by decide +kernel
theorem dX9_turn_36 : decode cX9_turn 36 = .ok (.aload_n 0, 1) := by decide +kernel
theorem dX9_turn_37 : decode cX9_turn 37 = .ok (.getfield 102, 3) := by decide +kernel
theorem dX9_turn_40 : decode cX9_turn 40 = .ok (.bipush 6, 2) := by decide +kernel
theorem dX9_turn_42 : decode cX9_turn 42 = .ok (.if_icmp .ne 10, 3) := by decide +kernel
theorem dX9_turn_45 : decode cX9_turn 45 = .ok (.aload_n 0, 1) := by decide +kernel
theorem dX9_turn_46 : decode cX9_turn 46 = .ok (.bipush (-6), 2) := by decide +kernel
theorem dX9_turn_48 : decode cX9_turn 48 = .ok (.invokevirtual 90, 3) := by decide +kernel
theorem dX9_turn_51 : decode cX9_turn 51 = .ok (.ireturn, 1) := by decide +kernel
theorem dX9_turn_52 : decode cX9_turn 52 = .ok (.aload_n 0, 1) := by decide +kernel
theorem dX9_turn_53 : decode cX9_turn 53 = .ok (.getfield 20, 3) := by decide +kernel
theorem dX9_turn_56 : decode cX9_turn 56 = .ok (.iconst 2, 1) := by decide +kernel
theorem dX9_turn_57 : decode cX9_turn 57 = .ok (.aload_n 0, 1) := by decide +kernel
theorem dX9_turn_58 : decode cX9_turn 58 = .ok (.getfield 102, 3) := by decide +kernel
theorem dX9_turn_61 : decode cX9_turn 61 = .ok (.imul, 1) := by decide +kernel
theorem dX9_turn_62 : decode cX9_turn 62 = .ok (.iload_n 1, 1) := by decide +kernel
theorem dX9_turn_63 : decode cX9_turn 63 = .ok (.iastore, 1) := by decide +kernel
theorem dX9_turn_64 : decode cX9_turn 64 = .ok (.aload_n 0, 1) := by decide +kernel
theorem dX9_turn_65 : decode cX9_turn 65 = .ok (.getfield 20, 3) := by decide +kernel
theorem dX9_turn_68 : decode cX9_turn 68 = .ok (.iconst 2, 1) := by decide +kernel
theorem dX9_turn_69 : decode cX9_turn 69 = .ok (.aload_n 0, 1) := by decide +kernel
theorem dX9_turn_70 : decode cX9_turn 70 = .ok (.getfield 102, 3) := by decide +kernel
theorem dX9_turn_73 : decode cX9_turn 73 = .ok (.imul, 1) := by decide +kernel
theorem dX9_turn_74 : decode cX9_turn 74 = .ok (.iconst 1, 1) := by decide +kernel
theorem dX9_turn_75 : decode cX9_turn 75 = .ok (.iadd, 1) := by decide +kernel
theorem dX9_turn_76 : decode cX9_turn 76 = .ok (.iload_n 2, 1) := by decide +kernel
theorem dX9_turn_77 : decode cX9_turn 77 = .ok (.iastore, 1) := by decide +kernel
theorem dX9_turn_78 : decode cX9_turn 78 = .ok (.aload_n 0, 1) := by decide +kernel
theorem dX9_turn_79 : decode cX9_turn 79 = .ok (.dup, 1) := by decide +kernel
theorem dX9_turn_80 : decode cX9_turn 80 = .ok (.getfield 102, 3) := by decide +kernel
theorem dX9_turn_83 : decode cX9_turn 83 = .ok (.iconst 1, 1) := by decide +kernel
theorem dX9_turn_84 : decode cX9_turn 84 = .ok (.iadd, 1) := by decide +kernel
theorem dX9_turn_85 : decode cX9_turn 85 = .ok (.putfield 102, 3) := by decide +kernel
theorem dX9_turn_88 : decode cX9_turn 88 = .ok (.aload_n 0, 1) := by decide +kernel
theorem dX9_turn_89 : decode cX9_turn 89 = .ok (.getfield 102, 3) := by decide +kernel
theorem dX9_turn_92 : decode cX9_turn 92 = .ok (.ireturn, 1) := by decide +kernel
theorem dX9_still_0 : decode cX9_still 0 = .ok (.aload_n 0, 1) := by decide +kernel
theorem dX9_still_1 : decode cX9_still 1 = .ok (.getfield 102, 3) := by decide +kernel
theorem dX9_still_4 : decode cX9_still 4 = .ok (.istore_n 1, 1) := by decide +kernel
theorem dX9_still_5 : decode cX9_still 5 = .ok (.aload_n 0, 1) := by decide +kernel
theorem dX9_still_6 : decode cX9_still 6 = .ok (.iconst 0, 1) := by decide +kernel
theorem dX9_still_7 : decode cX9_still 7 = .ok (.putfield 102, 3) := by decide +kernel
theorem dX9_still_10 : decode cX9_still 10 = .ok (.iload_n 1, 1) := by decide +kernel
theorem dX9_still_11 : decode cX9_still 11 = .ok (.ireturn, 1) := by decide +kernel
theorem dX9_turnsBy_0 : decode cX9_turnsBy 0 = .ok (.aload_n 0, 1) := by decide +kernel
theorem dX9_turnsBy_1 : decode cX9_turnsBy 1 = .ok (.getfield 44, 3) := by decide +kernel
theorem dX9_turnsBy_4 : decode cX9_turnsBy 4 = .ok (.iconst 0, 1) := by decide +kernel
theorem dX9_turnsBy_5 : decode cX9_turnsBy 5 = .ok (.aload_n 0, 1) := by decide +kernel
theorem dX9_turnsBy_6 : decode cX9_turnsBy 6 = .ok (.getfield 47, 3) := by decide +kernel
theorem dX9_turnsBy_9 : decode cX9_turnsBy 9 = .ok (.iconst 0, 1) := by decide +kernel
theorem dX9_turnsBy_10 : decode cX9_turnsBy 10 = .ok (.bipush 18, 2) := by decide +kernel
theorem dX9_turnsBy_12 : decode cX9_turnsBy 12 = .ok (.invokestatic 83, 3) := by decide +kernel
theorem dX9_turnsBy_15 : decode cX9_turnsBy 15 = .ok (.iconst 0, 1) := by decide +kernel
theorem dX9_turnsBy_16 : decode cX9_turnsBy 16 = .ok (.istore_n 3, 1) := by decide +kernel
theorem dX9_turnsBy_17 : decode cX9_turnsBy 17 = .ok (.iload_n 3, 1) := by decide +kernel
theorem dX9_turnsBy_18 : decode cX9_turnsBy 18 = .ok (.aload_n 0, 1) := by decide +kernel
theorem dX9_turnsBy_19 : decode cX9_turnsBy 19 = .ok (.getfield 87, 3) := by decide +kernel
theorem dX9_turnsBy_22 : decode cX9_turnsBy 22 = .ok (.if_icmp .ge 235, 3) := by decide +kernel
theorem dX9_turnsBy_25 : decode cX9_turnsBy 25 = .ok (.iload_n 1, 1) := by decide +kernel
theorem dX9_turnsBy_26 : decode cX9_turnsBy 26 = .ok (.iconst 2, 1) := by decide +kernel
theorem dX9_turnsBy_27 : decode cX9_turnsBy 27 = .ok (.if_icmp .ne 14, 3) := by decide +kernel
theorem dX9_turnsBy_30 : decode cX9_turnsBy 30 = .ok (.aload_n 0, 1) := by decide +kernel
theorem dX9_turnsBy_31 : decode cX9_turnsBy 31 = .ok (.getfield 87, 3) := by decide +kernel
theorem dX9_turnsBy_34 : decode cX9_turnsBy 34 = .ok (.iconst 1, 1) := by decide +kernel
theorem dX9_turnsBy_35 : decode cX9_turnsBy 35 = .ok (.isub, 1) := by decide +kernel
theorem dX9_turnsBy_36 : decode cX9_turnsBy 36 = .ok (.iload_n 3, 1) := by decide +kernel
theorem dX9_turnsBy_37 : decode cX9_turnsBy 37 = .ok (.isub, 1) := by decide +kernel
theorem dX9_turnsBy_38 : decode cX9_turnsBy 38 = .ok (.goto 25, 3) := by decide +kernel
theorem dX9_turnsBy_41 : decode cX9_turnsBy 41 = .ok (.iload_n 1, 1) := by decide +kernel
theorem dX9_turnsBy_42 : decode cX9_turnsBy 42 = .ok (.iconst 3, 1) := by decide +kernel
theorem dX9_turnsBy_43 : decode cX9_turnsBy 43 = .ok (.if_icmp .eq 8, 3) := by decide +kernel
theorem dX9_turnsBy_46 : decode cX9_turnsBy 46 = .ok (.iload_n 1, 1) := by decide +kernel
theorem dX9_turnsBy_47 : decode cX9_turnsBy 47 = .ok (.iconst 5, 1) := by decide +kernel
theorem dX9_turnsBy_48 : decode cX9_turnsBy 48 = .ok (.if_icmp .ne 14, 3) := by decide +kernel
theorem dX9_turnsBy_51 : decode cX9_turnsBy 51 = .ok (.iload_n 3, 1) := by decide +kernel
theorem dX9_turnsBy_52 : decode cX9_turnsBy 52 = .ok (.iload_n 2, 1) := by decide +kernel
theorem dX9_turnsBy_53 : decode cX9_turnsBy 53 = .ok (.iadd, 1) := by decide +kernel
theorem dX9_turnsBy_54 : decode cX9_turnsBy 54 = .ok (.aload_n 0, 1) := by decide +kernel
theorem dX9_turnsBy_55 : decode cX9_turnsBy 55 = .ok (.getfield 87, 3) := by decide +kernel
theorem dX9_turnsBy_58 : decode cX9_turnsBy 58 = .ok (.irem, 1) := by decide +kernel
theorem dX9_turnsBy_59 : decode cX9_turnsBy 59 = .ok (.goto 4, 3) := by decide +kernel
theorem dX9_turnsBy_62 : decode cX9_turnsBy 62 = .ok (.iload_n 3, 1) := by decide +kernel
theorem dX9_turnsBy_63 : decode cX9_turnsBy 63 = .ok (.istore 4, 2) := by decide +kernel
theorem dX9_turnsBy_65 : decode cX9_turnsBy 65 = .ok (.iconst 0, 1) := by decide +kernel
theorem dX9_turnsBy_66 : decode cX9_turnsBy 66 = .ok (.istore 5, 2) := by decide +kernel
theorem dX9_turnsBy_68 : decode cX9_turnsBy 68 = .ok (.iload 5, 2) := by decide +kernel
theorem dX9_turnsBy_70 : decode cX9_turnsBy 70 = .ok (.iconst 3, 1) := by decide +kernel
theorem dX9_turnsBy_71 : decode cX9_turnsBy 71 = .ok (.if_icmp .ge 180, 3) := by decide +kernel
theorem dX9_turnsBy_74 : decode cX9_turnsBy 74 = .ok (.aload_n 0, 1) := by decide +kernel
theorem dX9_turnsBy_75 : decode cX9_turnsBy 75 = .ok (.getfield 47, 3) := by decide +kernel
theorem dX9_turnsBy_78 : decode cX9_turnsBy 78 = .ok (.iconst 3, 1) := by decide +kernel
theorem dX9_turnsBy_79 : decode cX9_turnsBy 79 = .ok (.iload_n 3, 1) := by decide +kernel
theorem dX9_turnsBy_80 : decode cX9_turnsBy 80 = .ok (.imul, 1) := by decide +kernel
theorem dX9_turnsBy_81 : decode cX9_turnsBy 81 = .ok (.iload 5, 2) := by decide +kernel
theorem dX9_turnsBy_83 : decode cX9_turnsBy 83 = .ok (.iadd, 1) := by decide +kernel
theorem dX9_turnsBy_84 : decode cX9_turnsBy 84 = .ok (.iaload, 1) := by decide +kernel
theorem dX9_turnsBy_85 : decode cX9_turnsBy 85 = .ok (.istore 6, 2) := by decide +kernel
theorem dX9_turnsBy_87 : decode cX9_turnsBy 87 = .ok (.iload_n 1, 1) := by decide +kernel
theorem dX9_turnsBy_88 : decode cX9_turnsBy 88 = .ok (.tableswitch 120 0 4 #[36, 50, 67, 67, 84], 36) := by decide +kernel
theorem dX9_turnsBy_124 : decode cX9_turnsBy 124 = .ok (.iload 6, 2) := by decide +kernel
theorem dX9_turnsBy_126 : decode cX9_turnsBy 126 = .ok (.iload_n 2, 1) := by decide +kernel
theorem dX9_turnsBy_127 : decode cX9_turnsBy 127 = .ok (.imul, 1) := by decide +kernel
theorem dX9_turnsBy_128 : decode cX9_turnsBy 128 = .ok (.aload_n 0, 1) := by decide +kernel
theorem dX9_turnsBy_129 : decode cX9_turnsBy 129 = .ok (.getfield 7, 3) := by decide +kernel
theorem dX9_turnsBy_132 : decode cX9_turnsBy 132 = .ok (.irem, 1) := by decide +kernel
theorem dX9_turnsBy_133 : decode cX9_turnsBy 133 = .ok (.istore 6, 2) := by decide +kernel
theorem dX9_turnsBy_135 : decode cX9_turnsBy 135 = .ok (.goto 97, 3) := by decide +kernel
theorem dX9_turnsBy_138 : decode cX9_turnsBy 138 = .ok (.aload_n 0, 1) := by decide +kernel
theorem dX9_turnsBy_139 : decode cX9_turnsBy 139 = .ok (.getfield 7, 3) := by decide +kernel
theorem dX9_turnsBy_142 : decode cX9_turnsBy 142 = .ok (.iload 6, 2) := by decide +kernel
theorem dX9_turnsBy_144 : decode cX9_turnsBy 144 = .ok (.isub, 1) := by decide +kernel
theorem dX9_turnsBy_145 : decode cX9_turnsBy 145 = .ok (.aload_n 0, 1) := by decide +kernel
theorem dX9_turnsBy_146 : decode cX9_turnsBy 146 = .ok (.getfield 7, 3) := by decide +kernel
theorem dX9_turnsBy_149 : decode cX9_turnsBy 149 = .ok (.irem, 1) := by decide +kernel
theorem dX9_turnsBy_150 : decode cX9_turnsBy 150 = .ok (.istore 6, 2) := by decide +kernel
theorem dX9_turnsBy_152 : decode cX9_turnsBy 152 = .ok (.goto 80, 3) := by decide +kernel
theorem dX9_turnsBy_155 : decode cX9_turnsBy 155 = .ok (.aload_n 0, 1) := by decide +kernel
theorem dX9_turnsBy_156 : decode cX9_turnsBy 156 = .ok (.getfield 47, 3) := by decide +kernel
theorem dX9_turnsBy_159 : decode cX9_turnsBy 159 = .ok (.iconst 3, 1) := by decide +kernel
theorem dX9_turnsBy_160 : decode cX9_turnsBy 160 = .ok (.iload 4, 2) := by decide +kernel
theorem dX9_turnsBy_162 : decode cX9_turnsBy 162 = .ok (.imul, 1) := by decide +kernel
theorem dX9_turnsBy_163 : decode cX9_turnsBy 163 = .ok (.iload 5, 2) := by decide +kernel
theorem dX9_turnsBy_165 : decode cX9_turnsBy 165 = .ok (.iadd, 1) := by decide +kernel
theorem dX9_turnsBy_166 : decode cX9_turnsBy 166 = .ok (.iaload, 1) := by decide +kernel
theorem dX9_turnsBy_167 : decode cX9_turnsBy 167 = .ok (.istore 6, 2) := by decide +kernel
theorem dX9_turnsBy_169 : decode cX9_turnsBy 169 = .ok (.goto 63, 3) := by decide +kernel
theorem dX9_turnsBy_172 : decode cX9_turnsBy 172 = .ok (.iload 5, 2) := by decide +kernel
theorem dX9_turnsBy_174 : decode cX9_turnsBy 174 = .ok (.iconst 2, 1) := by decide +kernel
theorem dX9_turnsBy_175 : decode cX9_turnsBy 175 = .ok (.if_icmp .ge 26, 3) := by decide +kernel
theorem dX9_turnsBy_178 : decode cX9_turnsBy 178 = .ok (.iload_n 2, 1) := by decide +kernel
theorem dX9_turnsBy_179 : decode cX9_turnsBy 179 = .ok (.iconst 2, 1) := by decide +kernel
theorem dX9_turnsBy_180 : decode cX9_turnsBy 180 = .ok (.irem, 1) := by decide +kernel
theorem dX9_turnsBy_181 : decode cX9_turnsBy 181 = .ok (.iconst 1, 1) := by decide +kernel
theorem dX9_turnsBy_182 : decode cX9_turnsBy 182 = .ok (.if_icmp .ne 19, 3) := by decide +kernel
theorem dX9_turnsBy_185 : decode cX9_turnsBy 185 = .ok (.aload_n 0, 1) := by decide +kernel
theorem dX9_turnsBy_186 : decode cX9_turnsBy 186 = .ok (.getfield 47, 3) := by decide +kernel
theorem dX9_turnsBy_189 : decode cX9_turnsBy 189 = .ok (.iconst 3, 1) := by decide +kernel
theorem dX9_turnsBy_190 : decode cX9_turnsBy 190 = .ok (.iload_n 3, 1) := by decide +kernel
theorem dX9_turnsBy_191 : decode cX9_turnsBy 191 = .ok (.imul, 1) := by decide +kernel
theorem dX9_turnsBy_192 : decode cX9_turnsBy 192 = .ok (.iconst 1, 1) := by decide +kernel
theorem dX9_turnsBy_193 : decode cX9_turnsBy 193 = .ok (.iadd, 1) := by decide +kernel
theorem dX9_turnsBy_194 : decode cX9_turnsBy 194 = .ok (.iload 5, 2) := by decide +kernel
theorem dX9_turnsBy_196 : decode cX9_turnsBy 196 = .ok (.isub, 1) := by decide +kernel
theorem dX9_turnsBy_197 : decode cX9_turnsBy 197 = .ok (.iaload, 1) := by decide +kernel
theorem dX9_turnsBy_198 : decode cX9_turnsBy 198 = .ok (.goto 5, 3) := by decide +kernel
theorem dX9_turnsBy_201 : decode cX9_turnsBy 201 = .ok (.iload 6, 2) := by decide +kernel
theorem dX9_turnsBy_203 : decode cX9_turnsBy 203 = .ok (.istore 6, 2) := by decide +kernel
theorem dX9_turnsBy_205 : decode cX9_turnsBy 205 = .ok (.goto 27, 3) := by decide +kernel
theorem dX9_turnsBy_208 : decode cX9_turnsBy 208 = .ok (.iload 5, 2) := by decide +kernel
theorem dX9_turnsBy_210 : decode cX9_turnsBy 210 = .ok (.iconst 2, 1) := by decide +kernel
theorem dX9_turnsBy_211 : decode cX9_turnsBy 211 = .ok (.if_icmp .ne 17, 3) := by decide +kernel
theorem dX9_turnsBy_214 : decode cX9_turnsBy 214 = .ok (.aload_n 0, 1) := by decide +kernel
theorem dX9_turnsBy_215 : decode cX9_turnsBy 215 = .ok (.getfield 47, 3) := by decide +kernel
theorem dX9_turnsBy_218 : decode cX9_turnsBy 218 = .ok (.iconst 3, 1) := by decide +kernel
theorem dX9_turnsBy_219 : decode cX9_turnsBy 219 = .ok (.iload 4, 2) := by decide +kernel
theorem dX9_turnsBy_221 : decode cX9_turnsBy 221 = .ok (.imul, 1) := by decide +kernel
theorem dX9_turnsBy_222 : decode cX9_turnsBy 222 = .ok (.iconst 2, 1) := by decide +kernel
theorem dX9_turnsBy_223 : decode cX9_turnsBy 223 = .ok (.iadd, 1) := by decide +kernel
theorem dX9_turnsBy_224 : decode cX9_turnsBy 224 = .ok (.iaload, 1) := by decide +kernel
theorem dX9_turnsBy_225 : decode cX9_turnsBy 225 = .ok (.goto 5, 3) := by decide +kernel
theorem dX9_turnsBy_228 : decode cX9_turnsBy 228 = .ok (.iload 6, 2) := by decide +kernel
theorem dX9_turnsBy_230 : decode cX9_turnsBy 230 = .ok (.istore 6, 2) := by decide +kernel
theorem dX9_turnsBy_232 : decode cX9_turnsBy 232 = .ok (.aload_n 0, 1) := by decide +kernel
theorem dX9_turnsBy_233 : decode cX9_turnsBy 233 = .ok (.getfield 44, 3) := by decide +kernel
theorem dX9_turnsBy_236 : decode cX9_turnsBy 236 = .ok (.iconst 3, 1) := by decide +kernel
theorem dX9_turnsBy_237 : decode cX9_turnsBy 237 = .ok (.iload_n 3, 1) := by decide +kernel
theorem dX9_turnsBy_238 : decode cX9_turnsBy 238 = .ok (.imul, 1) := by decide +kernel
theorem dX9_turnsBy_239 : decode cX9_turnsBy 239 = .ok (.iload 5, 2) := by decide +kernel
theorem dX9_turnsBy_241 : decode cX9_turnsBy 241 = .ok (.iadd, 1) := by decide +kernel
theorem dX9_turnsBy_242 : decode cX9_turnsBy 242 = .ok (.iload 6, 2) := by decide +kernel
theorem dX9_turnsBy_244 : decode cX9_turnsBy 244 = .ok (.iastore, 1) := by decide +kernel
theorem dX9_turnsBy_245 : decode cX9_turnsBy 245 = .ok (.iinc 5 1, 3) := by decide +kernel
theorem dX9_turnsBy_248 : decode cX9_turnsBy 248 = .ok (.goto (-180), 3) := by decide +kernel
theorem dX9_turnsBy_251 : decode cX9_turnsBy 251 = .ok (.iinc 3 1, 3) := by decide +kernel
theorem dX9_turnsBy_254 : decode cX9_turnsBy 254 = .ok (.goto (-237), 3) := by decide +kernel
theorem dX9_turnsBy_257 : decode cX9_turnsBy 257 = .ok (.return_, 1) := by decide +kernel
theorem dX9_turnsAll_0 : decode cX9_turnsAll 0 = .ok (.aload_n 0, 1) := by decide +kernel
theorem dX9_turnsAll_1 : decode cX9_turnsAll 1 = .ok (.getfield 13, 3) := by decide +kernel
theorem dX9_turnsAll_4 : decode cX9_turnsAll 4 = .ok (.iconst 0, 1) := by decide +kernel
theorem dX9_turnsAll_5 : decode cX9_turnsAll 5 = .ok (.aload_n 0, 1) := by decide +kernel
theorem dX9_turnsAll_6 : decode cX9_turnsAll 6 = .ok (.getfield 44, 3) := by decide +kernel
theorem dX9_turnsAll_9 : decode cX9_turnsAll 9 = .ok (.iconst 0, 1) := by decide +kernel
theorem dX9_turnsAll_10 : decode cX9_turnsAll 10 = .ok (.bipush 18, 2) := by decide +kernel
theorem dX9_turnsAll_12 : decode cX9_turnsAll 12 = .ok (.invokestatic 83, 3) := by decide +kernel
theorem dX9_turnsAll_15 : decode cX9_turnsAll 15 = .ok (.iconst 0, 1) := by decide +kernel
theorem dX9_turnsAll_16 : decode cX9_turnsAll 16 = .ok (.istore_n 1, 1) := by decide +kernel
theorem dX9_turnsAll_17 : decode cX9_turnsAll 17 = .ok (.iload_n 1, 1) := by decide +kernel
theorem dX9_turnsAll_18 : decode cX9_turnsAll 18 = .ok (.aload_n 0, 1) := by decide +kernel
theorem dX9_turnsAll_19 : decode cX9_turnsAll 19 = .ok (.getfield 102, 3) := by decide +kernel
theorem dX9_turnsAll_22 : decode cX9_turnsAll 22 = .ok (.if_icmp .ge 31, 3) := by decide +kernel
theorem dX9_turnsAll_25 : decode cX9_turnsAll 25 = .ok (.aload_n 0, 1) := by decide +kernel
theorem dX9_turnsAll_26 : decode cX9_turnsAll 26 = .ok (.aload_n 0, 1) := by decide +kernel
theorem dX9_turnsAll_27 : decode cX9_turnsAll 27 = .ok (.getfield 20, 3) := by decide +kernel
theorem dX9_turnsAll_30 : decode cX9_turnsAll 30 = .ok (.iconst 2, 1) := by decide +kernel
theorem dX9_turnsAll_31 : decode cX9_turnsAll 31 = .ok (.iload_n 1, 1) := by decide +kernel
theorem dX9_turnsAll_32 : decode cX9_turnsAll 32 = .ok (.imul, 1) := by decide +kernel
theorem dX9_turnsAll_33 : decode cX9_turnsAll 33 = .ok (.iaload, 1) := by decide +kernel
theorem dX9_turnsAll_34 : decode cX9_turnsAll 34 = .ok (.aload_n 0, 1) := by decide +kernel
theorem dX9_turnsAll_35 : decode cX9_turnsAll 35 = .ok (.getfield 20, 3) := by decide +kernel
theorem dX9_turnsAll_38 : decode cX9_turnsAll 38 = .ok (.iconst 2, 1) := by decide +kernel
theorem dX9_turnsAll_39 : decode cX9_turnsAll 39 = .ok (.iload_n 1, 1) := by decide +kernel
theorem dX9_turnsAll_40 : decode cX9_turnsAll 40 = .ok (.imul, 1) := by decide +kernel
theorem dX9_turnsAll_41 : decode cX9_turnsAll 41 = .ok (.iconst 1, 1) := by decide +kernel
theorem dX9_turnsAll_42 : decode cX9_turnsAll 42 = .ok (.iadd, 1) := by decide +kernel
theorem dX9_turnsAll_43 : decode cX9_turnsAll 43 = .ok (.iaload, 1) := by decide +kernel
theorem dX9_turnsAll_44 : decode cX9_turnsAll 44 = .ok (.invokevirtual 231, 3) := by decide +kernel
theorem dX9_turnsAll_47 : decode cX9_turnsAll 47 = .ok (.iinc 1 1, 3) := by decide +kernel
theorem dX9_turnsAll_50 : decode cX9_turnsAll 50 = .ok (.goto (-33), 3) := by decide +kernel
theorem dX9_turnsAll_53 : decode cX9_turnsAll 53 = .ok (.return_, 1) := by decide +kernel
theorem dX9_turned_0 : decode cX9_turned 0 = .ok (.aload_n 0, 1) := by decide +kernel
theorem dX9_turned_1 : decode cX9_turned 1 = .ok (.iload_n 1, 1) := by decide +kernel
theorem dX9_turned_2 : decode cX9_turned 2 = .ok (.invokevirtual 121, 3) := by decide +kernel
theorem dX9_turned_5 : decode cX9_turned 5 = .ok (.ifCond .ne 9, 3) := by decide +kernel
theorem dX9_turned_8 : decode cX9_turned 8 = .ok (.aload_n 0, 1) := by decide +kernel
theorem dX9_turned_9 : decode cX9_turned 9 = .ok (.iconst (-1), 1) := by decide +kernel
theorem dX9_turned_10 : decode cX9_turned 10 = .ok (.invokevirtual 90, 3) := by decide +kernel
theorem dX9_turned_13 : decode cX9_turned 13 = .ok (.ireturn, 1) := by decide +kernel
theorem dX9_turned_14 : decode cX9_turned 14 = .ok (.iload_n 2, 1) := by decide +kernel
theorem dX9_turned_15 : decode cX9_turned 15 = .ok (.i2l, 1) := by decide +kernel
theorem dX9_turned_16 : decode cX9_turned 16 = .ok (.lconst 0, 1) := by decide +kernel
theorem dX9_turned_17 : decode cX9_turned 17 = .ok (.ldc2_w 207, 3) := by decide +kernel
theorem dX9_turned_20 : decode cX9_turned 20 = .ok (.invokestatic 98, 3) := by decide +kernel
theorem dX9_turned_23 : decode cX9_turned 23 = .ok (.ifCond .ne 10, 3) := by decide +kernel
theorem dX9_turned_26 : decode cX9_turned 26 = .ok (.aload_n 0, 1) := by decide +kernel
theorem dX9_turned_27 : decode cX9_turned 27 = .ok (.bipush (-2), 2) := by decide +kernel
theorem dX9_turned_29 : decode cX9_turned 29 = .ok (.invokevirtual 90, 3) := by decide +kernel
theorem dX9_turned_32 : decode cX9_turned 32 = .ok (.ireturn, 1) := by decide +kernel
theorem dX9_turned_33 : decode cX9_turned 33 = .ok (.aload_n 0, 1) := by decide +kernel
theorem dX9_turned_34 : decode cX9_turned 34 = .ok (.invokevirtual 235, 3) := by decide +kernel
theorem dX9_turned_37 : decode cX9_turned 37 = .ok (.aload_n 0, 1) := by decide +kernel
theorem dX9_turned_38 : decode cX9_turned 38 = .ok (.getfield 44, 3) := by decide +kernel
theorem dX9_turned_41 : decode cX9_turned 41 = .ok (.iconst 3, 1) := by decide +kernel
theorem dX9_turned_42 : decode cX9_turned 42 = .ok (.iload_n 1, 1) := by decide +kernel
theorem dX9_turned_43 : decode cX9_turned 43 = .ok (.imul, 1) := by decide +kernel
theorem dX9_turned_44 : decode cX9_turned 44 = .ok (.iload_n 2, 1) := by decide +kernel
theorem dX9_turned_45 : decode cX9_turned 45 = .ok (.iadd, 1) := by decide +kernel
theorem dX9_turned_46 : decode cX9_turned 46 = .ok (.iaload, 1) := by decide +kernel
theorem dX9_turned_47 : decode cX9_turned 47 = .ok (.ireturn, 1) := by decide +kernel
theorem dX9_turns_0 : decode cX9_turns 0 = .ok (.aload_n 0, 1) := by decide +kernel
theorem dX9_turns_1 : decode cX9_turns 1 = .ok (.invokevirtual 235, 3) := by decide +kernel
theorem dX9_turns_4 : decode cX9_turns 4 = .ok (.iconst 0, 1) := by decide +kernel
theorem dX9_turns_5 : decode cX9_turns 5 = .ok (.istore_n 1, 1) := by decide +kernel
theorem dX9_turns_6 : decode cX9_turns 6 = .ok (.iload_n 1, 1) := by decide +kernel
theorem dX9_turns_7 : decode cX9_turns 7 = .ok (.aload_n 0, 1) := by decide +kernel
theorem dX9_turns_8 : decode cX9_turns 8 = .ok (.getfield 87, 3) := by decide +kernel
theorem dX9_turns_11 : decode cX9_turns 11 = .ok (.if_icmp .ge 61, 3) := by decide +kernel
theorem dX9_turns_14 : decode cX9_turns 14 = .ok (.aload_n 0, 1) := by decide +kernel
theorem dX9_turns_15 : decode cX9_turns 15 = .ok (.getfield 44, 3) := by decide +kernel
theorem dX9_turns_18 : decode cX9_turns 18 = .ok (.iconst 3, 1) := by decide +kernel
theorem dX9_turns_19 : decode cX9_turns 19 = .ok (.iload_n 1, 1) := by decide +kernel
theorem dX9_turns_20 : decode cX9_turns 20 = .ok (.imul, 1) := by decide +kernel
theorem dX9_turns_21 : decode cX9_turns 21 = .ok (.iaload, 1) := by decide +kernel
theorem dX9_turns_22 : decode cX9_turns 22 = .ok (.ifCond .eq 37, 3) := by decide +kernel
theorem dX9_turns_25 : decode cX9_turns 25 = .ok (.aload_n 0, 1) := by decide +kernel
theorem dX9_turns_26 : decode cX9_turns 26 = .ok (.getfield 44, 3) := by decide +kernel
theorem dX9_turns_29 : decode cX9_turns 29 = .ok (.iconst 3, 1) := by decide +kernel
theorem dX9_turns_30 : decode cX9_turns 30 = .ok (.iload_n 1, 1) := by decide +kernel
theorem dX9_turns_31 : decode cX9_turns 31 = .ok (.imul, 1) := by decide +kernel
theorem dX9_turns_32 : decode cX9_turns 32 = .ok (.iconst 1, 1) := by decide +kernel
theorem dX9_turns_33 : decode cX9_turns 33 = .ok (.iadd, 1) := by decide +kernel
theorem dX9_turns_34 : decode cX9_turns 34 = .ok (.iaload, 1) := by decide +kernel
theorem dX9_turns_35 : decode cX9_turns 35 = .ok (.ifCond .eq 24, 3) := by decide +kernel
theorem dX9_turns_38 : decode cX9_turns 38 = .ok (.aload_n 0, 1) := by decide +kernel
theorem dX9_turns_39 : decode cX9_turns 39 = .ok (.getfield 44, 3) := by decide +kernel
theorem dX9_turns_42 : decode cX9_turns 42 = .ok (.iconst 3, 1) := by decide +kernel
theorem dX9_turns_43 : decode cX9_turns 43 = .ok (.iload_n 1, 1) := by decide +kernel
theorem dX9_turns_44 : decode cX9_turns 44 = .ok (.imul, 1) := by decide +kernel
theorem dX9_turns_45 : decode cX9_turns 45 = .ok (.iaload, 1) := by decide +kernel
theorem dX9_turns_46 : decode cX9_turns 46 = .ok (.aload_n 0, 1) := by decide +kernel
theorem dX9_turns_47 : decode cX9_turns 47 = .ok (.getfield 44, 3) := by decide +kernel
theorem dX9_turns_50 : decode cX9_turns 50 = .ok (.iconst 3, 1) := by decide +kernel
theorem dX9_turns_51 : decode cX9_turns 51 = .ok (.iload_n 1, 1) := by decide +kernel
theorem dX9_turns_52 : decode cX9_turns 52 = .ok (.imul, 1) := by decide +kernel
theorem dX9_turns_53 : decode cX9_turns 53 = .ok (.iconst 1, 1) := by decide +kernel
theorem dX9_turns_54 : decode cX9_turns 54 = .ok (.iadd, 1) := by decide +kernel
theorem dX9_turns_55 : decode cX9_turns 55 = .ok (.iaload, 1) := by decide +kernel
theorem dX9_turns_56 : decode cX9_turns 56 = .ok (.if_icmp .ne 10, 3) := by decide +kernel
theorem dX9_turns_59 : decode cX9_turns 59 = .ok (.aload_n 0, 1) := by decide +kernel
theorem dX9_turns_60 : decode cX9_turns 60 = .ok (.bipush (-3), 2) := by decide +kernel
theorem dX9_turns_62 : decode cX9_turns 62 = .ok (.invokevirtual 90, 3) := by decide +kernel
theorem dX9_turns_65 : decode cX9_turns 65 = .ok (.ireturn, 1) := by decide +kernel
theorem dX9_turns_66 : decode cX9_turns 66 = .ok (.iinc 1 1, 3) := by decide +kernel
theorem dX9_turns_69 : decode cX9_turns 69 = .ok (.goto (-63), 3) := by decide +kernel
theorem dX9_turns_72 : decode cX9_turns 72 = .ok (.aload_n 0, 1) := by decide +kernel
theorem dX9_turns_73 : decode cX9_turns 73 = .ok (.invokevirtual 124, 3) := by decide +kernel
theorem dX9_turns_76 : decode cX9_turns 76 = .ok (.aload_n 0, 1) := by decide +kernel
theorem dX9_turns_77 : decode cX9_turns 77 = .ok (.getfield 44, 3) := by decide +kernel
theorem dX9_turns_80 : decode cX9_turns 80 = .ok (.iconst 0, 1) := by decide +kernel
theorem dX9_turns_81 : decode cX9_turns 81 = .ok (.aload_n 0, 1) := by decide +kernel
theorem dX9_turns_82 : decode cX9_turns 82 = .ok (.getfield 13, 3) := by decide +kernel
theorem dX9_turns_85 : decode cX9_turns 85 = .ok (.iconst 0, 1) := by decide +kernel
theorem dX9_turns_86 : decode cX9_turns 86 = .ok (.bipush 18, 2) := by decide +kernel
theorem dX9_turns_88 : decode cX9_turns 88 = .ok (.invokestatic 83, 3) := by decide +kernel
theorem dX9_turns_91 : decode cX9_turns 91 = .ok (.aload_n 0, 1) := by decide +kernel
theorem dX9_turns_92 : decode cX9_turns 92 = .ok (.getfield 87, 3) := by decide +kernel
theorem dX9_turns_95 : decode cX9_turns 95 = .ok (.ireturn, 1) := by decide +kernel
theorem dX9_letter_0 : decode cX9_letter 0 = .ok (.iload_n 1, 1) := by decide +kernel
theorem dX9_letter_1 : decode cX9_letter 1 = .ok (.ifCond .ge 10, 3) := by decide +kernel
theorem dX9_letter_4 : decode cX9_letter 4 = .ok (.aload_n 0, 1) := by decide +kernel
theorem dX9_letter_5 : decode cX9_letter 5 = .ok (.bipush (-4), 2) := by decide +kernel
theorem dX9_letter_7 : decode cX9_letter 7 = .ok (.invokevirtual 90, 3) := by decide +kernel
theorem dX9_letter_10 : decode cX9_letter 10 = .ok (.ireturn, 1) := by decide +kernel
theorem dX9_letter_11 : decode cX9_letter 11 = .ok (.iload_n 1, 1) := by decide +kernel
theorem dX9_letter_12 : decode cX9_letter 12 = .ok (.sipush 255, 3) := by decide +kernel
theorem dX9_letter_15 : decode cX9_letter 15 = .ok (.if_icmp .gt 12, 3) := by decide +kernel
theorem dX9_letter_18 : decode cX9_letter 18 = .ok (.aload_n 0, 1) := by decide +kernel
theorem dX9_letter_19 : decode cX9_letter 19 = .ok (.getfield 238, 3) := by decide +kernel
theorem dX9_letter_22 : decode cX9_letter 22 = .ok (.bipush 72, 2) := by decide +kernel
theorem dX9_letter_24 : decode cX9_letter 24 = .ok (.if_icmp .ne 10, 3) := by decide +kernel
theorem dX9_letter_27 : decode cX9_letter 27 = .ok (.aload_n 0, 1) := by decide +kernel
theorem dX9_letter_28 : decode cX9_letter 28 = .ok (.bipush (-6), 2) := by decide +kernel
theorem dX9_letter_30 : decode cX9_letter 30 = .ok (.invokevirtual 90, 3) := by decide +kernel
theorem dX9_letter_33 : decode cX9_letter 33 = .ok (.ireturn, 1) := by decide +kernel
theorem dX9_letter_34 : decode cX9_letter 34 = .ok (.aload_n 0, 1) := by decide +kernel
theorem dX9_letter_35 : decode cX9_letter 35 = .ok (.getfield 50, 3) := by decide +kernel
theorem dX9_letter_38 : decode cX9_letter 38 = .ok (.aload_n 0, 1) := by decide +kernel
theorem dX9_letter_39 : decode cX9_letter 39 = .ok (.getfield 238, 3) := by decide +kernel
theorem dX9_letter_42 : decode cX9_letter 42 = .ok (.iload_n 1, 1) := by decide +kernel
theorem dX9_letter_43 : decode cX9_letter 43 = .ok (.iastore, 1) := by decide +kernel
theorem dX9_letter_44 : decode cX9_letter 44 = .ok (.aload_n 0, 1) := by decide +kernel
theorem dX9_letter_45 : decode cX9_letter 45 = .ok (.dup, 1) := by decide +kernel
theorem dX9_letter_46 : decode cX9_letter 46 = .ok (.getfield 238, 3) := by decide +kernel
theorem dX9_letter_49 : decode cX9_letter 49 = .ok (.iconst 1, 1) := by decide +kernel
theorem dX9_letter_50 : decode cX9_letter 50 = .ok (.iadd, 1) := by decide +kernel
theorem dX9_letter_51 : decode cX9_letter 51 = .ok (.putfield 238, 3) := by decide +kernel
theorem dX9_letter_54 : decode cX9_letter 54 = .ok (.aload_n 0, 1) := by decide +kernel
theorem dX9_letter_55 : decode cX9_letter 55 = .ok (.getfield 238, 3) := by decide +kernel
theorem dX9_letter_58 : decode cX9_letter 58 = .ok (.ireturn, 1) := by decide +kernel
theorem dX9_digitsOf_0 : decode cX9_digitsOf 0 = .ok (.iload_n 0, 1) := by decide +kernel
theorem dX9_digitsOf_1 : decode cX9_digitsOf 1 = .ok (.bipush 110, 2) := by decide +kernel
theorem dX9_digitsOf_3 : decode cX9_digitsOf 3 = .ok (.if_icmp .ne 7, 3) := by decide +kernel
theorem dX9_digitsOf_6 : decode cX9_digitsOf 6 = .ok (.iconst 2, 1) := by decide +kernel
theorem dX9_digitsOf_7 : decode cX9_digitsOf 7 = .ok (.goto 30, 3) := by decide +kernel
theorem dX9_digitsOf_10 : decode cX9_digitsOf 10 = .ok (.iload_n 0, 1) := by decide +kernel
theorem dX9_digitsOf_11 : decode cX9_digitsOf 11 = .ok (.bipush 112, 2) := by decide +kernel
theorem dX9_digitsOf_13 : decode cX9_digitsOf 13 = .ok (.if_icmp .ne 7, 3) := by decide +kernel
theorem dX9_digitsOf_16 : decode cX9_digitsOf 16 = .ok (.iconst 4, 1) := by decide +kernel
theorem dX9_digitsOf_17 : decode cX9_digitsOf 17 = .ok (.goto 20, 3) := by decide +kernel
theorem dX9_digitsOf_20 : decode cX9_digitsOf 20 = .ok (.iload_n 0, 1) := by decide +kernel
theorem dX9_digitsOf_21 : decode cX9_digitsOf 21 = .ok (.bipush 97, 2) := by decide +kernel
theorem dX9_digitsOf_23 : decode cX9_digitsOf 23 = .ok (.if_icmp .eq 9, 3) := by decide +kernel
theorem dX9_digitsOf_26 : decode cX9_digitsOf 26 = .ok (.iload_n 0, 1) := by decide +kernel
theorem dX9_digitsOf_27 : decode cX9_digitsOf 27 = .ok (.bipush 116, 2) := by decide +kernel
theorem dX9_digitsOf_29 : decode cX9_digitsOf 29 = .ok (.if_icmp .ne 7, 3) := by decide +kernel
theorem dX9_digitsOf_32 : decode cX9_digitsOf 32 = .ok (.iconst 3, 1) := by decide +kernel
theorem dX9_digitsOf_33 : decode cX9_digitsOf 33 = .ok (.goto 4, 3) := by decide +kernel
theorem dX9_digitsOf_36 : decode cX9_digitsOf 36 = .ok (.iconst 0, 1) := by decide +kernel
theorem dX9_digitsOf_37 : decode cX9_digitsOf 37 = .ok (.ireturn, 1) := by decide +kernel
theorem dX9_wrongPlace_0 : decode cX9_wrongPlace 0 = .ok (.iconst 0, 1) := by decide +kernel
theorem dX9_wrongPlace_1 : decode cX9_wrongPlace 1 = .ok (.istore_n 1, 1) := by decide +kernel
theorem dX9_wrongPlace_2 : decode cX9_wrongPlace 2 = .ok (.iload_n 1, 1) := by decide +kernel
theorem dX9_wrongPlace_3 : decode cX9_wrongPlace 3 = .ok (.aload_n 0, 1) := by decide +kernel
theorem dX9_wrongPlace_4 : decode cX9_wrongPlace 4 = .ok (.getfield 238, 3) := by decide +kernel
theorem dX9_wrongPlace_7 : decode cX9_wrongPlace 7 = .ok (.if_icmp .ge 15, 3) := by decide +kernel
theorem dX9_wrongPlace_10 : decode cX9_wrongPlace 10 = .ok (.aload_n 0, 1) := by decide +kernel
theorem dX9_wrongPlace_11 : decode cX9_wrongPlace 11 = .ok (.getfield 50, 3) := by decide +kernel
theorem dX9_wrongPlace_14 : decode cX9_wrongPlace 14 = .ok (.iload_n 1, 1) := by decide +kernel
theorem dX9_wrongPlace_15 : decode cX9_wrongPlace 15 = .ok (.iaload, 1) := by decide +kernel
theorem dX9_wrongPlace_16 : decode cX9_wrongPlace 16 = .ok (.invokestatic 241, 3) := by decide +kernel
theorem dX9_wrongPlace_19 : decode cX9_wrongPlace 19 = .ok (.goto 4, 3) := by decide +kernel
theorem dX9_wrongPlace_22 : decode cX9_wrongPlace 22 = .ok (.iconst 0, 1) := by decide +kernel
theorem dX9_wrongPlace_23 : decode cX9_wrongPlace 23 = .ok (.istore_n 2, 1) := by decide +kernel
theorem dX9_wrongPlace_24 : decode cX9_wrongPlace 24 = .ok (.iload_n 2, 1) := by decide +kernel
theorem dX9_wrongPlace_25 : decode cX9_wrongPlace 25 = .ok (.ifCond .ne 5, 3) := by decide +kernel
theorem dX9_wrongPlace_28 : decode cX9_wrongPlace 28 = .ok (.iload_n 1, 1) := by decide +kernel
theorem dX9_wrongPlace_29 : decode cX9_wrongPlace 29 = .ok (.ireturn, 1) := by decide +kernel
theorem dX9_wrongPlace_30 : decode cX9_wrongPlace 30 = .ok (.iinc 1 1, 3) := by decide +kernel
theorem dX9_wrongPlace_33 : decode cX9_wrongPlace 33 = .ok (.iconst 0, 1) := by decide +kernel
theorem dX9_wrongPlace_34 : decode cX9_wrongPlace 34 = .ok (.istore_n 3, 1) := by decide +kernel
theorem dX9_wrongPlace_35 : decode cX9_wrongPlace 35 = .ok (.iload_n 3, 1) := by decide +kernel
theorem dX9_wrongPlace_36 : decode cX9_wrongPlace 36 = .ok (.iload_n 2, 1) := by decide +kernel
theorem dX9_wrongPlace_37 : decode cX9_wrongPlace 37 = .ok (.if_icmp .ge 41, 3) := by decide +kernel
theorem dX9_wrongPlace_40 : decode cX9_wrongPlace 40 = .ok (.iload_n 1, 1) := by decide +kernel
theorem dX9_wrongPlace_41 : decode cX9_wrongPlace 41 = .ok (.aload_n 0, 1) := by decide +kernel
theorem dX9_wrongPlace_42 : decode cX9_wrongPlace 42 = .ok (.getfield 238, 3) := by decide +kernel
theorem dX9_wrongPlace_45 : decode cX9_wrongPlace 45 = .ok (.if_icmp .ge 22, 3) := by decide +kernel
theorem dX9_wrongPlace_48 : decode cX9_wrongPlace 48 = .ok (.aload_n 0, 1) := by decide +kernel
theorem dX9_wrongPlace_49 : decode cX9_wrongPlace 49 = .ok (.getfield 50, 3) := by decide +kernel
theorem dX9_wrongPlace_52 : decode cX9_wrongPlace 52 = .ok (.iload_n 1, 1) := by decide +kernel
theorem dX9_wrongPlace_53 : decode cX9_wrongPlace 53 = .ok (.iaload, 1) := by decide +kernel
theorem dX9_wrongPlace_54 : decode cX9_wrongPlace 54 = .ok (.i2l, 1) := by decide +kernel
theorem dX9_wrongPlace_55 : decode cX9_wrongPlace 55 = .ok (.ldc2_w 244, 3) := by decide +kernel
theorem dX9_wrongPlace_58 : decode cX9_wrongPlace 58 = .ok (.ldc2_w 246, 3) := by decide +kernel
theorem dX9_wrongPlace_61 : decode cX9_wrongPlace 61 = .ok (.invokestatic 98, 3) := by decide +kernel
theorem dX9_wrongPlace_64 : decode cX9_wrongPlace 64 = .ok (.ifCond .ne 5, 3) := by decide +kernel
theorem dX9_wrongPlace_67 : decode cX9_wrongPlace 67 = .ok (.iload_n 1, 1) := by decide +kernel
theorem dX9_wrongPlace_68 : decode cX9_wrongPlace 68 = .ok (.ireturn, 1) := by decide +kernel
theorem dX9_wrongPlace_69 : decode cX9_wrongPlace 69 = .ok (.iinc 1 1, 3) := by decide +kernel
theorem dX9_wrongPlace_72 : decode cX9_wrongPlace 72 = .ok (.iinc 3 1, 3) := by decide +kernel
theorem dX9_wrongPlace_75 : decode cX9_wrongPlace 75 = .ok (.goto (-40), 3) := by decide +kernel
theorem dX9_wrongPlace_78 : decode cX9_wrongPlace 78 = .ok (.iload_n 1, 1) := by decide +kernel
theorem dX9_wrongPlace_79 : decode cX9_wrongPlace 79 = .ok (.aload_n 0, 1) := by decide +kernel
theorem dX9_wrongPlace_80 : decode cX9_wrongPlace 80 = .ok (.getfield 238, 3) := by decide +kernel
theorem dX9_wrongPlace_83 : decode cX9_wrongPlace 83 = .ok (.if_icmp .ge 14, 3) := by decide +kernel
theorem dX9_wrongPlace_86 : decode cX9_wrongPlace 86 = .ok (.aload_n 0, 1) := by decide +kernel
theorem dX9_wrongPlace_87 : decode cX9_wrongPlace 87 = .ok (.getfield 50, 3) := by decide +kernel
theorem dX9_wrongPlace_90 : decode cX9_wrongPlace 90 = .ok (.iload_n 1, 1) := by decide +kernel
theorem dX9_wrongPlace_91 : decode cX9_wrongPlace 91 = .ok (.iaload, 1) := by decide +kernel
theorem dX9_wrongPlace_92 : decode cX9_wrongPlace 92 = .ok (.bipush 59, 2) := by decide +kernel
theorem dX9_wrongPlace_94 : decode cX9_wrongPlace 94 = .ok (.if_icmp .eq 5, 3) := by decide +kernel
theorem dX9_wrongPlace_97 : decode cX9_wrongPlace 97 = .ok (.iload_n 1, 1) := by decide +kernel
theorem dX9_wrongPlace_98 : decode cX9_wrongPlace 98 = .ok (.ireturn, 1) := by decide +kernel
theorem dX9_wrongPlace_99 : decode cX9_wrongPlace 99 = .ok (.iinc 1 1, 3) := by decide +kernel
theorem dX9_wrongPlace_102 : decode cX9_wrongPlace 102 = .ok (.iload_n 1, 1) := by decide +kernel
theorem dX9_wrongPlace_103 : decode cX9_wrongPlace 103 = .ok (.aload_n 0, 1) := by decide +kernel
theorem dX9_wrongPlace_104 : decode cX9_wrongPlace 104 = .ok (.getfield 238, 3) := by decide +kernel
theorem dX9_wrongPlace_107 : decode cX9_wrongPlace 107 = .ok (.if_icmp .lt (-105), 3) := by decide +kernel
theorem dX9_wrongPlace_110 : decode cX9_wrongPlace 110 = .ok (.iconst (-1), 1) := by decide +kernel
theorem dX9_wrongPlace_111 : decode cX9_wrongPlace 111 = .ok (.ireturn, 1) := by decide +kernel
theorem dX9_numberAt_0 : decode cX9_numberAt 0 = .ok (.iconst 0, 1) := by decide +kernel
theorem dX9_numberAt_1 : decode cX9_numberAt 1 = .ok (.istore_n 3, 1) := by decide +kernel
theorem dX9_numberAt_2 : decode cX9_numberAt 2 = .ok (.iconst 0, 1) := by decide +kernel
theorem dX9_numberAt_3 : decode cX9_numberAt 3 = .ok (.istore 4, 2) := by decide +kernel
theorem dX9_numberAt_5 : decode cX9_numberAt 5 = .ok (.iload 4, 2) := by decide +kernel
theorem dX9_numberAt_7 : decode cX9_numberAt 7 = .ok (.iload_n 2, 1) := by decide +kernel
theorem dX9_numberAt_8 : decode cX9_numberAt 8 = .ok (.if_icmp .ge 27, 3) := by decide +kernel
theorem dX9_numberAt_11 : decode cX9_numberAt 11 = .ok (.bipush 10, 2) := by decide +kernel
theorem dX9_numberAt_13 : decode cX9_numberAt 13 = .ok (.iload_n 3, 1) := by decide +kernel
theorem dX9_numberAt_14 : decode cX9_numberAt 14 = .ok (.imul, 1) := by decide +kernel
theorem dX9_numberAt_15 : decode cX9_numberAt 15 = .ok (.aload_n 0, 1) := by decide +kernel
theorem dX9_numberAt_16 : decode cX9_numberAt 16 = .ok (.getfield 50, 3) := by decide +kernel
theorem dX9_numberAt_19 : decode cX9_numberAt 19 = .ok (.iload_n 1, 1) := by decide +kernel
theorem dX9_numberAt_20 : decode cX9_numberAt 20 = .ok (.iload 4, 2) := by decide +kernel
theorem dX9_numberAt_22 : decode cX9_numberAt 22 = .ok (.iadd, 1) := by decide +kernel
theorem dX9_numberAt_23 : decode cX9_numberAt 23 = .ok (.iaload, 1) := by decide +kernel
theorem dX9_numberAt_24 : decode cX9_numberAt 24 = .ok (.iadd, 1) := by decide +kernel
theorem dX9_numberAt_25 : decode cX9_numberAt 25 = .ok (.bipush 48, 2) := by decide +kernel
theorem dX9_numberAt_27 : decode cX9_numberAt 27 = .ok (.isub, 1) := by decide +kernel
theorem dX9_numberAt_28 : decode cX9_numberAt 28 = .ok (.istore_n 3, 1) := by decide +kernel
theorem dX9_numberAt_29 : decode cX9_numberAt 29 = .ok (.iinc 4 1, 3) := by decide +kernel
theorem dX9_numberAt_32 : decode cX9_numberAt 32 = .ok (.goto (-27), 3) := by decide +kernel
theorem dX9_numberAt_35 : decode cX9_numberAt 35 = .ok (.iload_n 3, 1) := by decide +kernel
theorem dX9_numberAt_36 : decode cX9_numberAt 36 = .ok (.ireturn, 1) := by decide +kernel
theorem dX9_does_0 : decode cX9_does 0 = .ok (.aload_n 0, 1) := by decide +kernel
theorem dX9_does_1 : decode cX9_does 1 = .ok (.getfield 50, 3) := by decide +kernel
theorem dX9_does_4 : decode cX9_does 4 = .ok (.iload_n 1, 1) := by decide +kernel
theorem dX9_does_5 : decode cX9_does 5 = .ok (.iaload, 1) := by decide +kernel
theorem dX9_does_6 : decode cX9_does 6 = .ok (.lookupswitch 196 #[(97, 141), (110, 34), (112, 60)], 34) := by decide +kernel
theorem dX9_does_40 : decode cX9_does 40 = .ok (.aload_n 0, 1) := by decide +kernel
theorem dX9_does_41 : decode cX9_does 41 = .ok (.iload_n 1, 1) := by decide +kernel
theorem dX9_does_42 : decode cX9_does 42 = .ok (.iconst 1, 1) := by decide +kernel
theorem dX9_does_43 : decode cX9_does 43 = .ok (.iadd, 1) := by decide +kernel
theorem dX9_does_44 : decode cX9_does 44 = .ok (.iconst 2, 1) := by decide +kernel
theorem dX9_does_45 : decode cX9_does 45 = .ok (.invokevirtual 248, 3) := by decide +kernel
theorem dX9_does_48 : decode cX9_does 48 = .ok (.istore_n 2, 1) := by decide +kernel
theorem dX9_does_49 : decode cX9_does 49 = .ok (.iload_n 2, 1) := by decide +kernel
theorem dX9_does_50 : decode cX9_does 50 = .ok (.invokestatic 105, 3) := by decide +kernel
theorem dX9_does_53 : decode cX9_does 53 = .ok (.ifCond .eq 8, 3) := by decide +kernel
theorem dX9_does_56 : decode cX9_does 56 = .ok (.aload_n 0, 1) := by decide +kernel
theorem dX9_does_57 : decode cX9_does 57 = .ok (.iload_n 2, 1) := by decide +kernel
theorem dX9_does_58 : decode cX9_does 58 = .ok (.invokevirtual 109, 3) := by decide +kernel
theorem dX9_does_61 : decode cX9_does 61 = .ok (.iload_n 2, 1) := by decide +kernel
theorem dX9_does_62 : decode cX9_does 62 = .ok (.invokestatic 105, 3) := by decide +kernel
theorem dX9_does_65 : decode cX9_does 65 = .ok (.ireturn, 1) := by decide +kernel
theorem dX9_does_66 : decode cX9_does 66 = .ok (.aload_n 0, 1) := by decide +kernel
theorem dX9_does_67 : decode cX9_does 67 = .ok (.iload_n 1, 1) := by decide +kernel
theorem dX9_does_68 : decode cX9_does 68 = .ok (.iconst 1, 1) := by decide +kernel
theorem dX9_does_69 : decode cX9_does 69 = .ok (.iadd, 1) := by decide +kernel
theorem dX9_does_70 : decode cX9_does 70 = .ok (.iconst 2, 1) := by decide +kernel
theorem dX9_does_71 : decode cX9_does 71 = .ok (.invokevirtual 248, 3) := by decide +kernel
theorem dX9_does_74 : decode cX9_does 74 = .ok (.istore_n 3, 1) := by decide +kernel
theorem dX9_does_75 : decode cX9_does 75 = .ok (.aload_n 0, 1) := by decide +kernel
theorem dX9_does_76 : decode cX9_does 76 = .ok (.iload_n 1, 1) := by decide +kernel
theorem dX9_does_77 : decode cX9_does 77 = .ok (.iconst 3, 1) := by decide +kernel
theorem dX9_does_78 : decode cX9_does 78 = .ok (.iadd, 1) := by decide +kernel
theorem dX9_does_79 : decode cX9_does 79 = .ok (.iconst 2, 1) := by decide +kernel
theorem dX9_does_80 : decode cX9_does 80 = .ok (.invokevirtual 248, 3) := by decide +kernel
theorem dX9_does_83 : decode cX9_does 83 = .ok (.istore 4, 2) := by decide +kernel
theorem dX9_does_85 : decode cX9_does 85 = .ok (.iload_n 3, 1) := by decide +kernel
theorem dX9_does_86 : decode cX9_does 86 = .ok (.i2l, 1) := by decide +kernel
theorem dX9_does_87 : decode cX9_does 87 = .ok (.lconst 1, 1) := by decide +kernel
theorem dX9_does_88 : decode cX9_does 88 = .ok (.aload_n 0, 1) := by decide +kernel
theorem dX9_does_89 : decode cX9_does 89 = .ok (.getfield 7, 3) := by decide +kernel
theorem dX9_does_92 : decode cX9_does 92 = .ok (.iconst 1, 1) := by decide +kernel
theorem dX9_does_93 : decode cX9_does 93 = .ok (.isub, 1) := by decide +kernel
theorem dX9_does_94 : decode cX9_does 94 = .ok (.i2l, 1) := by decide +kernel
theorem dX9_does_95 : decode cX9_does 95 = .ok (.invokestatic 98, 3) := by decide +kernel
theorem dX9_does_98 : decode cX9_does 98 = .ok (.ifCond .eq 37, 3) := by decide +kernel
theorem dX9_does_101 : decode cX9_does 101 = .ok (.iload 4, 2) := by decide +kernel
theorem dX9_does_103 : decode cX9_does 103 = .ok (.i2l, 1) := by decide +kernel
theorem dX9_does_104 : decode cX9_does 104 = .ok (.lconst 1, 1) := by decide +kernel
theorem dX9_does_105 : decode cX9_does 105 = .ok (.aload_n 0, 1) := by decide +kernel
theorem dX9_does_106 : decode cX9_does 106 = .ok (.getfield 7, 3) := by decide +kernel
theorem dX9_does_109 : decode cX9_does 109 = .ok (.iconst 1, 1) := by decide +kernel
theorem dX9_does_110 : decode cX9_does 110 = .ok (.isub, 1) := by decide +kernel
theorem dX9_does_111 : decode cX9_does 111 = .ok (.i2l, 1) := by decide +kernel
theorem dX9_does_112 : decode cX9_does 112 = .ok (.invokestatic 98, 3) := by decide +kernel
theorem dX9_does_115 : decode cX9_does 115 = .ok (.ifCond .eq 20, 3) := by decide +kernel
theorem dX9_does_118 : decode cX9_does 118 = .ok (.iload_n 3, 1) := by decide +kernel
theorem dX9_does_119 : decode cX9_does 119 = .ok (.iload 4, 2) := by decide +kernel
theorem dX9_does_121 : decode cX9_does 121 = .ok (.if_icmp .eq 14, 3) := by decide +kernel
theorem dX9_does_124 : decode cX9_does 124 = .ok (.aload_n 0, 1) := by decide +kernel
theorem dX9_does_125 : decode cX9_does 125 = .ok (.getfield 87, 3) := by decide +kernel
theorem dX9_does_128 : decode cX9_does 128 = .ok (.aload_n 0, 1) := by decide +kernel
theorem dX9_does_129 : decode cX9_does 129 = .ok (.invokevirtual 113, 3) := by decide +kernel
theorem dX9_does_132 : decode cX9_does 132 = .ok (.if_icmp .ne 5, 3) := by decide +kernel
theorem dX9_does_135 : decode cX9_does 135 = .ok (.iconst 0, 1) := by decide +kernel
theorem dX9_does_136 : decode cX9_does 136 = .ok (.ireturn, 1) := by decide +kernel
theorem dX9_does_137 : decode cX9_does 137 = .ok (.aload_n 0, 1) := by decide +kernel
theorem dX9_does_138 : decode cX9_does 138 = .ok (.iload_n 3, 1) := by decide +kernel
theorem dX9_does_139 : decode cX9_does 139 = .ok (.iload 4, 2) := by decide +kernel
theorem dX9_does_141 : decode cX9_does 141 = .ok (.iconst 0, 1) := by decide +kernel
theorem dX9_does_142 : decode cX9_does 142 = .ok (.invokevirtual 117, 3) := by decide +kernel
theorem dX9_does_145 : decode cX9_does 145 = .ok (.iconst 1, 1) := by decide +kernel
theorem dX9_does_146 : decode cX9_does 146 = .ok (.ireturn, 1) := by decide +kernel
theorem dX9_does_147 : decode cX9_does 147 = .ok (.aload_n 0, 1) := by decide +kernel
theorem dX9_does_148 : decode cX9_does 148 = .ok (.iload_n 1, 1) := by decide +kernel
theorem dX9_does_149 : decode cX9_does 149 = .ok (.iconst 1, 1) := by decide +kernel
theorem dX9_does_150 : decode cX9_does 150 = .ok (.iadd, 1) := by decide +kernel
theorem dX9_does_151 : decode cX9_does 151 = .ok (.iconst 1, 1) := by decide +kernel
theorem dX9_does_152 : decode cX9_does 152 = .ok (.invokevirtual 248, 3) := by decide +kernel
theorem dX9_does_155 : decode cX9_does 155 = .ok (.istore 5, 2) := by decide +kernel
theorem dX9_does_157 : decode cX9_does 157 = .ok (.aload_n 0, 1) := by decide +kernel
theorem dX9_does_158 : decode cX9_does 158 = .ok (.iload_n 1, 1) := by decide +kernel
theorem dX9_does_159 : decode cX9_does 159 = .ok (.iconst 2, 1) := by decide +kernel
theorem dX9_does_160 : decode cX9_does 160 = .ok (.iadd, 1) := by decide +kernel
theorem dX9_does_161 : decode cX9_does 161 = .ok (.iconst 2, 1) := by decide +kernel
theorem dX9_does_162 : decode cX9_does 162 = .ok (.invokevirtual 248, 3) := by decide +kernel
theorem dX9_does_165 : decode cX9_does 165 = .ok (.istore 6, 2) := by decide +kernel
theorem dX9_does_167 : decode cX9_does 167 = .ok (.aload_n 0, 1) := by decide +kernel
theorem dX9_does_168 : decode cX9_does 168 = .ok (.iload 5, 2) := by decide +kernel
theorem dX9_does_170 : decode cX9_does 170 = .ok (.invokevirtual 121, 3) := by decide +kernel
theorem dX9_does_173 : decode cX9_does 173 = .ok (.ifCond .eq 12, 3) := by decide +kernel
theorem dX9_does_176 : decode cX9_does 176 = .ok (.iload 6, 2) := by decide +kernel
theorem dX9_does_178 : decode cX9_does 178 = .ok (.aload_n 0, 1) := by decide +kernel
theorem dX9_does_179 : decode cX9_does 179 = .ok (.getfield 7, 3) := by decide +kernel
theorem dX9_does_182 : decode cX9_does 182 = .ok (.if_icmp .lt 5, 3) := by decide +kernel
theorem dX9_does_185 : decode cX9_does 185 = .ok (.iconst 0, 1) := by decide +kernel
theorem dX9_does_186 : decode cX9_does 186 = .ok (.ireturn, 1) := by decide +kernel
theorem dX9_does_187 : decode cX9_does 187 = .ok (.aload_n 0, 1) := by decide +kernel
theorem dX9_does_188 : decode cX9_does 188 = .ok (.getfield 13, 3) := by decide +kernel
theorem dX9_does_191 : decode cX9_does 191 = .ok (.iconst 3, 1) := by decide +kernel
theorem dX9_does_192 : decode cX9_does 192 = .ok (.iload 5, 2) := by decide +kernel
theorem dX9_does_194 : decode cX9_does 194 = .ok (.imul, 1) := by decide +kernel
theorem dX9_does_195 : decode cX9_does 195 = .ok (.iconst 2, 1) := by decide +kernel
theorem dX9_does_196 : decode cX9_does 196 = .ok (.iadd, 1) := by decide +kernel
theorem dX9_does_197 : decode cX9_does 197 = .ok (.iload 6, 2) := by decide +kernel
theorem dX9_does_199 : decode cX9_does 199 = .ok (.iastore, 1) := by decide +kernel
theorem dX9_does_200 : decode cX9_does 200 = .ok (.iconst 1, 1) := by decide +kernel
theorem dX9_does_201 : decode cX9_does 201 = .ok (.ireturn, 1) := by decide +kernel
theorem dX9_does_202 : decode cX9_does 202 = .ok (.aload_n 0, 1) := by decide +kernel
theorem dX9_does_203 : decode cX9_does 203 = .ok (.iload_n 1, 1) := by decide +kernel
theorem dX9_does_204 : decode cX9_does 204 = .ok (.iconst 1, 1) := by decide +kernel
theorem dX9_does_205 : decode cX9_does 205 = .ok (.iadd, 1) := by decide +kernel
theorem dX9_does_206 : decode cX9_does 206 = .ok (.iconst 1, 1) := by decide +kernel
theorem dX9_does_207 : decode cX9_does 207 = .ok (.invokevirtual 248, 3) := by decide +kernel
theorem dX9_does_210 : decode cX9_does 210 = .ok (.istore 7, 2) := by decide +kernel
theorem dX9_does_212 : decode cX9_does 212 = .ok (.aload_n 0, 1) := by decide +kernel
theorem dX9_does_213 : decode cX9_does 213 = .ok (.iload_n 1, 1) := by decide +kernel
theorem dX9_does_214 : decode cX9_does 214 = .ok (.iconst 2, 1) := by decide +kernel
theorem dX9_does_215 : decode cX9_does 215 = .ok (.iadd, 1) := by decide +kernel
theorem dX9_does_216 : decode cX9_does 216 = .ok (.iconst 2, 1) := by decide +kernel
theorem dX9_does_217 : decode cX9_does 217 = .ok (.invokevirtual 248, 3) := by decide +kernel
theorem dX9_does_220 : decode cX9_does 220 = .ok (.istore 8, 2) := by decide +kernel
theorem dX9_does_222 : decode cX9_does 222 = .ok (.iload 7, 2) := by decide +kernel
theorem dX9_does_224 : decode cX9_does 224 = .ok (.iconst 5, 1) := by decide +kernel
theorem dX9_does_225 : decode cX9_does 225 = .ok (.if_icmp .gt 19, 3) := by decide +kernel
theorem dX9_does_228 : decode cX9_does 228 = .ok (.iload 8, 2) := by decide +kernel
theorem dX9_does_230 : decode cX9_does 230 = .ok (.bipush 12, 2) := by decide +kernel
theorem dX9_does_232 : decode cX9_does 232 = .ok (.if_icmp .gt 12, 3) := by decide +kernel
theorem dX9_does_235 : decode cX9_does 235 = .ok (.aload_n 0, 1) := by decide +kernel
theorem dX9_does_236 : decode cX9_does 236 = .ok (.getfield 102, 3) := by decide +kernel
theorem dX9_does_239 : decode cX9_does 239 = .ok (.bipush 6, 2) := by decide +kernel
theorem dX9_does_241 : decode cX9_does 241 = .ok (.if_icmp .ne 5, 3) := by decide +kernel
theorem dX9_does_244 : decode cX9_does 244 = .ok (.iconst 0, 1) := by decide +kernel
theorem dX9_does_245 : decode cX9_does 245 = .ok (.ireturn, 1) := by decide +kernel
theorem dX9_does_246 : decode cX9_does 246 = .ok (.aload_n 0, 1) := by decide +kernel
theorem dX9_does_247 : decode cX9_does 247 = .ok (.getfield 20, 3) := by decide +kernel
theorem dX9_does_250 : decode cX9_does 250 = .ok (.iconst 2, 1) := by decide +kernel
theorem dX9_does_251 : decode cX9_does 251 = .ok (.aload_n 0, 1) := by decide +kernel
theorem dX9_does_252 : decode cX9_does 252 = .ok (.getfield 102, 3) := by decide +kernel
theorem dX9_does_255 : decode cX9_does 255 = .ok (.imul, 1) := by decide +kernel
theorem dX9_does_256 : decode cX9_does 256 = .ok (.iload 7, 2) := by decide +kernel
theorem dX9_does_258 : decode cX9_does 258 = .ok (.iastore, 1) := by decide +kernel
theorem dX9_does_259 : decode cX9_does 259 = .ok (.aload_n 0, 1) := by decide +kernel
theorem dX9_does_260 : decode cX9_does 260 = .ok (.getfield 20, 3) := by decide +kernel
theorem dX9_does_263 : decode cX9_does 263 = .ok (.iconst 2, 1) := by decide +kernel
theorem dX9_does_264 : decode cX9_does 264 = .ok (.aload_n 0, 1) := by decide +kernel
theorem dX9_does_265 : decode cX9_does 265 = .ok (.getfield 102, 3) := by decide +kernel
theorem dX9_does_268 : decode cX9_does 268 = .ok (.imul, 1) := by decide +kernel
theorem dX9_does_269 : decode cX9_does 269 = .ok (.iconst 1, 1) := by decide +kernel
theorem dX9_does_270 : decode cX9_does 270 = .ok (.iadd, 1) := by decide +kernel
theorem dX9_does_271 : decode cX9_does 271 = .ok (.iload 8, 2) := by decide +kernel
theorem dX9_does_273 : decode cX9_does 273 = .ok (.iastore, 1) := by decide +kernel
theorem dX9_does_274 : decode cX9_does 274 = .ok (.aload_n 0, 1) := by decide +kernel
theorem dX9_does_275 : decode cX9_does 275 = .ok (.dup, 1) := by decide +kernel
theorem dX9_does_276 : decode cX9_does 276 = .ok (.getfield 102, 3) := by decide +kernel
theorem dX9_does_279 : decode cX9_does 279 = .ok (.iconst 1, 1) := by decide +kernel
theorem dX9_does_280 : decode cX9_does 280 = .ok (.iadd, 1) := by decide +kernel
theorem dX9_does_281 : decode cX9_does 281 = .ok (.putfield 102, 3) := by decide +kernel
theorem dX9_does_284 : decode cX9_does 284 = .ok (.iconst 1, 1) := by decide +kernel
theorem dX9_does_285 : decode cX9_does 285 = .ok (.ireturn, 1) := by decide +kernel
theorem dX9_text_0 : decode cX9_text 0 = .ok (.aload_n 0, 1) := by decide +kernel
theorem dX9_text_1 : decode cX9_text 1 = .ok (.invokevirtual 251, 3) := by decide +kernel
theorem dX9_text_4 : decode cX9_text 4 = .ok (.istore_n 1, 1) := by decide +kernel
theorem dX9_text_5 : decode cX9_text 5 = .ok (.iload_n 1, 1) := by decide +kernel
theorem dX9_text_6 : decode cX9_text 6 = .ok (.ifCond .lt 14, 3) := by decide +kernel
theorem dX9_text_9 : decode cX9_text 9 = .ok (.aload_n 0, 1) := by decide +kernel
theorem dX9_text_10 : decode cX9_text 10 = .ok (.iconst 0, 1) := by decide +kernel
theorem dX9_text_11 : decode cX9_text 11 = .ok (.putfield 238, 3) := by decide +kernel
theorem dX9_text_14 : decode cX9_text 14 = .ok (.sipush (-1000), 3) := by decide +kernel
theorem dX9_text_17 : decode cX9_text 17 = .ok (.iload_n 1, 1) := by decide +kernel
theorem dX9_text_18 : decode cX9_text 18 = .ok (.isub, 1) := by decide +kernel
theorem dX9_text_19 : decode cX9_text 19 = .ok (.ireturn, 1) := by decide +kernel
theorem dX9_text_20 : decode cX9_text 20 = .ok (.aload_n 0, 1) := by decide +kernel
theorem dX9_text_21 : decode cX9_text 21 = .ok (.getfield 7, 3) := by decide +kernel
theorem dX9_text_24 : decode cX9_text 24 = .ok (.istore_n 2, 1) := by decide +kernel
theorem dX9_text_25 : decode cX9_text 25 = .ok (.aload_n 0, 1) := by decide +kernel
theorem dX9_text_26 : decode cX9_text 26 = .ok (.getfield 87, 3) := by decide +kernel
theorem dX9_text_29 : decode cX9_text 29 = .ok (.istore_n 3, 1) := by decide +kernel
theorem dX9_text_30 : decode cX9_text 30 = .ok (.aload_n 0, 1) := by decide +kernel
theorem dX9_text_31 : decode cX9_text 31 = .ok (.getfield 102, 3) := by decide +kernel
theorem dX9_text_34 : decode cX9_text 34 = .ok (.istore 4, 2) := by decide +kernel
theorem dX9_text_36 : decode cX9_text 36 = .ok (.aload_n 0, 1) := by decide +kernel
theorem dX9_text_37 : decode cX9_text 37 = .ok (.getfield 80, 3) := by decide +kernel
theorem dX9_text_40 : decode cX9_text 40 = .ok (.istore 5, 2) := by decide +kernel
theorem dX9_text_42 : decode cX9_text 42 = .ok (.aload_n 0, 1) := by decide +kernel
theorem dX9_text_43 : decode cX9_text 43 = .ok (.getfield 13, 3) := by decide +kernel
theorem dX9_text_46 : decode cX9_text 46 = .ok (.iconst 0, 1) := by decide +kernel
theorem dX9_text_47 : decode cX9_text 47 = .ok (.aload_n 0, 1) := by decide +kernel
theorem dX9_text_48 : decode cX9_text 48 = .ok (.getfield 53, 3) := by decide +kernel
theorem dX9_text_51 : decode cX9_text 51 = .ok (.iconst 0, 1) := by decide +kernel
theorem dX9_text_52 : decode cX9_text 52 = .ok (.bipush 18, 2) := by decide +kernel
theorem dX9_text_54 : decode cX9_text 54 = .ok (.invokestatic 83, 3) := by decide +kernel
theorem dX9_text_57 : decode cX9_text 57 = .ok (.aload_n 0, 1) := by decide +kernel
theorem dX9_text_58 : decode cX9_text 58 = .ok (.getfield 17, 3) := by decide +kernel
theorem dX9_text_61 : decode cX9_text 61 = .ok (.iconst 0, 1) := by decide +kernel
theorem dX9_text_62 : decode cX9_text 62 = .ok (.aload_n 0, 1) := by decide +kernel
theorem dX9_text_63 : decode cX9_text 63 = .ok (.getfield 56, 3) := by decide +kernel
theorem dX9_text_66 : decode cX9_text 66 = .ok (.iconst 0, 1) := by decide +kernel
theorem dX9_text_67 : decode cX9_text 67 = .ok (.sipush 338, 3) := by decide +kernel
theorem dX9_text_70 : decode cX9_text 70 = .ok (.invokestatic 83, 3) := by decide +kernel
theorem dX9_text_73 : decode cX9_text 73 = .ok (.aload_n 0, 1) := by decide +kernel
theorem dX9_text_74 : decode cX9_text 74 = .ok (.getfield 20, 3) := by decide +kernel
theorem dX9_text_77 : decode cX9_text 77 = .ok (.iconst 0, 1) := by decide +kernel
theorem dX9_text_78 : decode cX9_text 78 = .ok (.aload_n 0, 1) := by decide +kernel
theorem dX9_text_79 : decode cX9_text 79 = .ok (.getfield 59, 3) := by decide +kernel
theorem dX9_text_82 : decode cX9_text 82 = .ok (.iconst 0, 1) := by decide +kernel
theorem dX9_text_83 : decode cX9_text 83 = .ok (.bipush 12, 2) := by decide +kernel
theorem dX9_text_85 : decode cX9_text 85 = .ok (.invokestatic 83, 3) := by decide +kernel
theorem dX9_text_88 : decode cX9_text 88 = .ok (.iconst 0, 1) := by decide +kernel
theorem dX9_text_89 : decode cX9_text 89 = .ok (.istore 6, 2) := by decide +kernel
theorem dX9_text_91 : decode cX9_text 91 = .ok (.iconst 0, 1) := by decide +kernel
theorem dX9_text_92 : decode cX9_text 92 = .ok (.istore 7, 2) := by decide +kernel
theorem dX9_text_94 : decode cX9_text 94 = .ok (.iload 7, 2) := by decide +kernel
theorem dX9_text_96 : decode cX9_text 96 = .ok (.aload_n 0, 1) := by decide +kernel
theorem dX9_text_97 : decode cX9_text 97 = .ok (.getfield 238, 3) := by decide +kernel
theorem dX9_text_100 : decode cX9_text 100 = .ok (.if_icmp .ge 115, 3) := by decide +kernel
theorem dX9_text_103 : decode cX9_text 103 = .ok (.aload_n 0, 1) := by decide +kernel
theorem dX9_text_104 : decode cX9_text 104 = .ok (.iload 7, 2) := by decide +kernel
theorem dX9_text_106 : decode cX9_text 106 = .ok (.invokevirtual 254, 3) := by decide +kernel
theorem dX9_text_109 : decode cX9_text 109 = .ok (.ifCond .ne 83, 3) := by decide +kernel
theorem dX9_text_112 : decode cX9_text 112 = .ok (.aload_n 0, 1) := by decide +kernel
theorem dX9_text_113 : decode cX9_text 113 = .ok (.iload_n 2, 1) := by decide +kernel
theorem dX9_text_114 : decode cX9_text 114 = .ok (.putfield 7, 3) := by decide +kernel
theorem dX9_text_117 : decode cX9_text 117 = .ok (.aload_n 0, 1) := by decide +kernel
theorem dX9_text_118 : decode cX9_text 118 = .ok (.iload_n 3, 1) := by decide +kernel
theorem dX9_text_119 : decode cX9_text 119 = .ok (.putfield 87, 3) := by decide +kernel
theorem dX9_text_122 : decode cX9_text 122 = .ok (.aload_n 0, 1) := by decide +kernel
theorem dX9_text_123 : decode cX9_text 123 = .ok (.iload 4, 2) := by decide +kernel
theorem dX9_text_125 : decode cX9_text 125 = .ok (.putfield 102, 3) := by decide +kernel
theorem dX9_text_128 : decode cX9_text 128 = .ok (.aload_n 0, 1) := by decide +kernel
theorem dX9_text_129 : decode cX9_text 129 = .ok (.iload 5, 2) := by decide +kernel
theorem dX9_text_131 : decode cX9_text 131 = .ok (.putfield 80, 3) := by decide +kernel
theorem dX9_text_134 : decode cX9_text 134 = .ok (.aload_n 0, 1) := by decide +kernel
theorem dX9_text_135 : decode cX9_text 135 = .ok (.getfield 53, 3) := by decide +kernel
theorem dX9_text_138 : decode cX9_text 138 = .ok (.iconst 0, 1) := by decide +kernel
theorem dX9_text_139 : decode cX9_text 139 = .ok (.aload_n 0, 1) := by decide +kernel
theorem dX9_text_140 : decode cX9_text 140 = .ok (.getfield 13, 3) := by decide +kernel
theorem dX9_text_143 : decode cX9_text 143 = .ok (.iconst 0, 1) := by decide +kernel
theorem dX9_text_144 : decode cX9_text 144 = .ok (.bipush 18, 2) := by decide +kernel
theorem dX9_text_146 : decode cX9_text 146 = .ok (.invokestatic 83, 3) := by decide +kernel
theorem dX9_text_149 : decode cX9_text 149 = .ok (.aload_n 0, 1) := by decide +kernel
theorem dX9_text_150 : decode cX9_text 150 = .ok (.getfield 56, 3) := by decide +kernel
theorem dX9_text_153 : decode cX9_text 153 = .ok (.iconst 0, 1) := by decide +kernel
theorem dX9_text_154 : decode cX9_text 154 = .ok (.aload_n 0, 1) := by decide +kernel
theorem dX9_text_155 : decode cX9_text 155 = .ok (.getfield 17, 3) := by decide +kernel
theorem dX9_text_158 : decode cX9_text 158 = .ok (.iconst 0, 1) := by decide +kernel
theorem dX9_text_159 : decode cX9_text 159 = .ok (.sipush 338, 3) := by decide +kernel
theorem dX9_text_162 : decode cX9_text 162 = .ok (.invokestatic 83, 3) := by decide +kernel
theorem dX9_text_165 : decode cX9_text 165 = .ok (.aload_n 0, 1) := by decide +kernel
theorem dX9_text_166 : decode cX9_text 166 = .ok (.getfield 59, 3) := by decide +kernel
theorem dX9_text_169 : decode cX9_text 169 = .ok (.iconst 0, 1) := by decide +kernel
theorem dX9_text_170 : decode cX9_text 170 = .ok (.aload_n 0, 1) := by decide +kernel
theorem dX9_text_171 : decode cX9_text 171 = .ok (.getfield 20, 3) := by decide +kernel
theorem dX9_text_174 : decode cX9_text 174 = .ok (.iconst 0, 1) := by decide +kernel
theorem dX9_text_175 : decode cX9_text 175 = .ok (.bipush 12, 2) := by decide +kernel
theorem dX9_text_177 : decode cX9_text 177 = .ok (.invokestatic 83, 3) := by decide +kernel
theorem dX9_text_180 : decode cX9_text 180 = .ok (.aload_n 0, 1) := by decide +kernel
theorem dX9_text_181 : decode cX9_text 181 = .ok (.iconst 0, 1) := by decide +kernel
theorem dX9_text_182 : decode cX9_text 182 = .ok (.putfield 238, 3) := by decide +kernel
theorem dX9_text_185 : decode cX9_text 185 = .ok (.sipush (-2000), 3) := by decide +kernel
theorem dX9_text_188 : decode cX9_text 188 = .ok (.iload 7, 2) := by decide +kernel
theorem dX9_text_190 : decode cX9_text 190 = .ok (.isub, 1) := by decide +kernel
theorem dX9_text_191 : decode cX9_text 191 = .ok (.ireturn, 1) := by decide +kernel
theorem dX9_text_192 : decode cX9_text 192 = .ok (.iinc 6 1, 3) := by decide +kernel
theorem dX9_text_195 : decode cX9_text 195 = .ok (.iload 7, 2) := by decide +kernel
theorem dX9_text_197 : decode cX9_text 197 = .ok (.aload_n 0, 1) := by decide +kernel
theorem dX9_text_198 : decode cX9_text 198 = .ok (.getfield 50, 3) := by decide +kernel
theorem dX9_text_201 : decode cX9_text 201 = .ok (.iload 7, 2) := by decide +kernel
theorem dX9_text_203 : decode cX9_text 203 = .ok (.iaload, 1) := by decide +kernel
theorem dX9_text_204 : decode cX9_text 204 = .ok (.invokestatic 241, 3) := by decide +kernel
theorem dX9_text_207 : decode cX9_text 207 = .ok (.iconst 2, 1) := by decide +kernel
theorem dX9_text_208 : decode cX9_text 208 = .ok (.iadd, 1) := by decide +kernel
theorem dX9_text_209 : decode cX9_text 209 = .ok (.iadd, 1) := by decide +kernel
theorem dX9_text_210 : decode cX9_text 210 = .ok (.istore 7, 2) := by decide +kernel
theorem dX9_text_212 : decode cX9_text 212 = .ok (.goto (-118), 3) := by decide +kernel
theorem dX9_text_215 : decode cX9_text 215 = .ok (.aload_n 0, 1) := by decide +kernel
theorem dX9_text_216 : decode cX9_text 216 = .ok (.iconst 0, 1) := by decide +kernel
theorem dX9_text_217 : decode cX9_text 217 = .ok (.putfield 238, 3) := by decide +kernel
theorem dX9_text_220 : decode cX9_text 220 = .ok (.aload_n 0, 1) := by decide +kernel
theorem dX9_text_221 : decode cX9_text 221 = .ok (.iconst 0, 1) := by decide +kernel
theorem dX9_text_222 : decode cX9_text 222 = .ok (.putfield 80, 3) := by decide +kernel
theorem dX9_text_225 : decode cX9_text 225 = .ok (.iload 6, 2) := by decide +kernel
theorem dX9_text_227 : decode cX9_text 227 = .ok (.ireturn, 1) := by decide +kernel
theorem dX9_isList_0 : decode cX9_isList 0 = .ok (.iload_n 0, 1) := by decide +kernel
theorem dX9_isList_1 : decode cX9_isList 1 = .ok (.i2l, 1) := by decide +kernel
theorem dX9_isList_2 : decode cX9_isList 2 = .ok (.lconst 0, 1) := by decide +kernel
theorem dX9_isList_3 : decode cX9_isList 3 = .ok (.ldc2_w 207, 3) := by decide +kernel
theorem dX9_isList_6 : decode cX9_isList 6 = .ok (.invokestatic 98, 3) := by decide +kernel
theorem dX9_isList_9 : decode cX9_isList 9 = .ok (.ireturn, 1) := by decide +kernel
theorem dX9_list_0 : decode cX9_list 0 = .ok (.iload_n 1, 1) := by decide +kernel
theorem dX9_list_1 : decode cX9_list 1 = .ok (.invokestatic 257, 3) := by decide +kernel
theorem dX9_list_4 : decode cX9_list 4 = .ok (.ifCond .ne 9, 3) := by decide +kernel
theorem dX9_list_7 : decode cX9_list 7 = .ok (.aload_n 0, 1) := by decide +kernel
theorem dX9_list_8 : decode cX9_list 8 = .ok (.iconst (-1), 1) := by decide +kernel
theorem dX9_list_9 : decode cX9_list 9 = .ok (.invokevirtual 90, 3) := by decide +kernel
theorem dX9_list_12 : decode cX9_list 12 = .ok (.ireturn, 1) := by decide +kernel
theorem dX9_list_13 : decode cX9_list 13 = .ok (.iload_n 2, 1) := by decide +kernel
theorem dX9_list_14 : decode cX9_list 14 = .ok (.bipush 40, 2) := by decide +kernel
theorem dX9_list_16 : decode cX9_list 16 = .ok (.if_icmp .le 10, 3) := by decide +kernel
theorem dX9_list_19 : decode cX9_list 19 = .ok (.aload_n 0, 1) := by decide +kernel
theorem dX9_list_20 : decode cX9_list 20 = .ok (.bipush (-6), 2) := by decide +kernel
theorem dX9_list_22 : decode cX9_list 22 = .ok (.invokevirtual 90, 3) := by decide +kernel
theorem dX9_list_25 : decode cX9_list 25 = .ok (.ireturn, 1) := by decide +kernel
theorem dX9_list_26 : decode cX9_list 26 = .ok (.iload_n 2, 1) := by decide +kernel
theorem dX9_list_27 : decode cX9_list 27 = .ok (.ifCond .ge 6, 3) := by decide +kernel
theorem dX9_list_30 : decode cX9_list 30 = .ok (.bipush (-14), 2) := by decide +kernel
theorem dX9_list_32 : decode cX9_list 32 = .ok (.ireturn, 1) := by decide +kernel
theorem dX9_list_33 : decode cX9_list 33 = .ok (.aload_n 0, 1) := by decide +kernel
theorem dX9_list_34 : decode cX9_list 34 = .ok (.getfield 62, 3) := by decide +kernel
theorem dX9_list_37 : decode cX9_list 37 = .ok (.iload_n 1, 1) := by decide +kernel
theorem dX9_list_38 : decode cX9_list 38 = .ok (.iload_n 2, 1) := by decide +kernel
theorem dX9_list_39 : decode cX9_list 39 = .ok (.iastore, 1) := by decide +kernel
theorem dX9_list_40 : decode cX9_list 40 = .ok (.iconst 0, 1) := by decide +kernel
theorem dX9_list_41 : decode cX9_list 41 = .ok (.istore_n 3, 1) := by decide +kernel
theorem dX9_list_42 : decode cX9_list 42 = .ok (.iload_n 3, 1) := by decide +kernel
theorem dX9_list_43 : decode cX9_list 43 = .ok (.bipush 40, 2) := by decide +kernel
theorem dX9_list_45 : decode cX9_list 45 = .ok (.if_icmp .ge 21, 3) := by decide +kernel
theorem dX9_list_48 : decode cX9_list 48 = .ok (.aload_n 0, 1) := by decide +kernel
theorem dX9_list_49 : decode cX9_list 49 = .ok (.getfield 65, 3) := by decide +kernel
theorem dX9_list_52 : decode cX9_list 52 = .ok (.bipush 40, 2) := by decide +kernel
theorem dX9_list_54 : decode cX9_list 54 = .ok (.iload_n 1, 1) := by decide +kernel
theorem dX9_list_55 : decode cX9_list 55 = .ok (.imul, 1) := by decide +kernel
theorem dX9_list_56 : decode cX9_list 56 = .ok (.iload_n 3, 1) := by decide +kernel
theorem dX9_list_57 : decode cX9_list 57 = .ok (.iadd, 1) := by decide +kernel
theorem dX9_list_58 : decode cX9_list 58 = .ok (.iconst 0, 1) := by decide +kernel
theorem dX9_list_59 : decode cX9_list 59 = .ok (.iastore, 1) := by decide +kernel
theorem dX9_list_60 : decode cX9_list 60 = .ok (.iinc 3 1, 3) := by decide +kernel
theorem dX9_list_63 : decode cX9_list 63 = .ok (.goto (-21), 3) := by decide +kernel
theorem dX9_list_66 : decode cX9_list 66 = .ok (.iconst 1, 1) := by decide +kernel
theorem dX9_list_67 : decode cX9_list 67 = .ok (.ireturn, 1) := by decide +kernel
theorem dX9_put_0 : decode cX9_put 0 = .ok (.iload_n 1, 1) := by decide +kernel
theorem dX9_put_1 : decode cX9_put 1 = .ok (.invokestatic 257, 3) := by decide +kernel
theorem dX9_put_4 : decode cX9_put 4 = .ok (.ifCond .ne 9, 3) := by decide +kernel
theorem dX9_put_7 : decode cX9_put 7 = .ok (.aload_n 0, 1) := by decide +kernel
theorem dX9_put_8 : decode cX9_put 8 = .ok (.iconst (-1), 1) := by decide +kernel
theorem dX9_put_9 : decode cX9_put 9 = .ok (.invokevirtual 90, 3) := by decide +kernel
theorem dX9_put_12 : decode cX9_put 12 = .ok (.ireturn, 1) := by decide +kernel
theorem dX9_put_13 : decode cX9_put 13 = .ok (.aload_n 0, 1) := by decide +kernel
theorem dX9_put_14 : decode cX9_put 14 = .ok (.getfield 62, 3) := by decide +kernel
theorem dX9_put_17 : decode cX9_put 17 = .ok (.iload_n 1, 1) := by decide +kernel
theorem dX9_put_18 : decode cX9_put 18 = .ok (.iaload, 1) := by decide +kernel
theorem dX9_put_19 : decode cX9_put 19 = .ok (.ifCond .ge 6, 3) := by decide +kernel
theorem dX9_put_22 : decode cX9_put 22 = .ok (.bipush (-11), 2) := by decide +kernel
theorem dX9_put_24 : decode cX9_put 24 = .ok (.ireturn, 1) := by decide +kernel
theorem dX9_put_25 : decode cX9_put 25 = .ok (.iload_n 2, 1) := by decide +kernel
theorem dX9_put_26 : decode cX9_put 26 = .ok (.i2l, 1) := by decide +kernel
theorem dX9_put_27 : decode cX9_put 27 = .ok (.lconst 0, 1) := by decide +kernel
theorem dX9_put_28 : decode cX9_put 28 = .ok (.aload_n 0, 1) := by decide +kernel
theorem dX9_put_29 : decode cX9_put 29 = .ok (.getfield 62, 3) := by decide +kernel
theorem dX9_put_32 : decode cX9_put 32 = .ok (.iload_n 1, 1) := by decide +kernel
theorem dX9_put_33 : decode cX9_put 33 = .ok (.iaload, 1) := by decide +kernel
theorem dX9_put_34 : decode cX9_put 34 = .ok (.iconst 1, 1) := by decide +kernel
theorem dX9_put_35 : decode cX9_put 35 = .ok (.isub, 1) := by decide +kernel
theorem dX9_put_36 : decode cX9_put 36 = .ok (.i2l, 1) := by decide +kernel
theorem dX9_put_37 : decode cX9_put 37 = .ok (.invokestatic 98, 3) := by decide +kernel
theorem dX9_put_40 : decode cX9_put 40 = .ok (.ifCond .ne 6, 3) := by decide +kernel
theorem dX9_put_43 : decode cX9_put 43 = .ok (.bipush (-13), 2) := by decide +kernel
theorem dX9_put_45 : decode cX9_put 45 = .ok (.ireturn, 1) := by decide +kernel
theorem dX9_put_46 : decode cX9_put 46 = .ok (.aload_n 0, 1) := by decide +kernel
theorem dX9_put_47 : decode cX9_put 47 = .ok (.getfield 65, 3) := by decide +kernel
theorem dX9_put_50 : decode cX9_put 50 = .ok (.bipush 40, 2) := by decide +kernel
theorem dX9_put_52 : decode cX9_put 52 = .ok (.iload_n 1, 1) := by decide +kernel
theorem dX9_put_53 : decode cX9_put 53 = .ok (.imul, 1) := by decide +kernel
theorem dX9_put_54 : decode cX9_put 54 = .ok (.iload_n 2, 1) := by decide +kernel
theorem dX9_put_55 : decode cX9_put 55 = .ok (.iadd, 1) := by decide +kernel
theorem dX9_put_56 : decode cX9_put 56 = .ok (.iload_n 3, 1) := by decide +kernel
theorem dX9_put_57 : decode cX9_put 57 = .ok (.iastore, 1) := by decide +kernel
theorem dX9_put_58 : decode cX9_put 58 = .ok (.iconst 1, 1) := by decide +kernel
theorem dX9_put_59 : decode cX9_put 59 = .ok (.ireturn, 1) := by decide +kernel
theorem dX9_look_0 : decode cX9_look 0 = .ok (.iload_n 1, 1) := by decide +kernel
theorem dX9_look_1 : decode cX9_look 1 = .ok (.invokestatic 257, 3) := by decide +kernel
theorem dX9_look_4 : decode cX9_look 4 = .ok (.ifCond .ne 14, 3) := by decide +kernel
theorem dX9_look_7 : decode cX9_look 7 = .ok (.ldc2_w 185, 3) := by decide +kernel
theorem dX9_look_10 : decode cX9_look 10 = .ok (.aload_n 0, 1) := by decide +kernel
theorem dX9_look_11 : decode cX9_look 11 = .ok (.iconst (-1), 1) := by decide +kernel
theorem dX9_look_12 : decode cX9_look 12 = .ok (.invokevirtual 90, 3) := by decide +kernel
theorem dX9_look_15 : decode cX9_look 15 = .ok (.i2l, 1) := by decide +kernel
theorem dX9_look_16 : decode cX9_look 16 = .ok (.lsub, 1) := by decide +kernel
theorem dX9_look_17 : decode cX9_look 17 = .ok (.lreturn, 1) := by decide +kernel
theorem dX9_look_18 : decode cX9_look 18 = .ok (.aload_n 0, 1) := by decide +kernel
theorem dX9_look_19 : decode cX9_look 19 = .ok (.getfield 62, 3) := by decide +kernel
theorem dX9_look_22 : decode cX9_look 22 = .ok (.iload_n 1, 1) := by decide +kernel
theorem dX9_look_23 : decode cX9_look 23 = .ok (.iaload, 1) := by decide +kernel
theorem dX9_look_24 : decode cX9_look 24 = .ok (.ifCond .ge 7, 3) := by decide +kernel
theorem dX9_look_27 : decode cX9_look 27 = .ok (.ldc2_w 260, 3) := by decide +kernel
theorem dX9_look_30 : decode cX9_look 30 = .ok (.lreturn, 1) := by decide +kernel
theorem dX9_look_31 : decode cX9_look 31 = .ok (.iload_n 2, 1) := by decide +kernel
theorem dX9_look_32 : decode cX9_look 32 = .ok (.i2l, 1) := by decide +kernel
theorem dX9_look_33 : decode cX9_look 33 = .ok (.lconst 0, 1) := by decide +kernel
theorem dX9_look_34 : decode cX9_look 34 = .ok (.aload_n 0, 1) := by decide +kernel
theorem dX9_look_35 : decode cX9_look 35 = .ok (.getfield 62, 3) := by decide +kernel
theorem dX9_look_38 : decode cX9_look 38 = .ok (.iload_n 1, 1) := by decide +kernel
theorem dX9_look_39 : decode cX9_look 39 = .ok (.iaload, 1) := by decide +kernel
theorem dX9_look_40 : decode cX9_look 40 = .ok (.iconst 1, 1) := by decide +kernel
theorem dX9_look_41 : decode cX9_look 41 = .ok (.isub, 1) := by decide +kernel
theorem dX9_look_42 : decode cX9_look 42 = .ok (.i2l, 1) := by decide +kernel
theorem dX9_look_43 : decode cX9_look 43 = .ok (.invokestatic 98, 3) := by decide +kernel
theorem dX9_look_46 : decode cX9_look 46 = .ok (.ifCond .eq 18, 3) := by decide +kernel
theorem dX9_look_49 : decode cX9_look 49 = .ok (.aload_n 0, 1) := by decide +kernel
theorem dX9_look_50 : decode cX9_look 50 = .ok (.getfield 65, 3) := by decide +kernel
theorem dX9_look_53 : decode cX9_look 53 = .ok (.bipush 40, 2) := by decide +kernel
theorem dX9_look_55 : decode cX9_look 55 = .ok (.iload_n 1, 1) := by decide +kernel
theorem dX9_look_56 : decode cX9_look 56 = .ok (.imul, 1) := by decide +kernel
theorem dX9_look_57 : decode cX9_look 57 = .ok (.iload_n 2, 1) := by decide +kernel
theorem dX9_look_58 : decode cX9_look 58 = .ok (.iadd, 1) := by decide +kernel
theorem dX9_look_59 : decode cX9_look 59 = .ok (.iaload, 1) := by decide +kernel
theorem dX9_look_60 : decode cX9_look 60 = .ok (.i2l, 1) := by decide +kernel
theorem dX9_look_61 : decode cX9_look 61 = .ok (.goto 6, 3) := by decide +kernel
theorem dX9_look_64 : decode cX9_look 64 = .ok (.ldc2_w 262, 3) := by decide +kernel
theorem dX9_look_67 : decode cX9_look 67 = .ok (.lreturn, 1) := by decide +kernel
theorem dX9_lays__0 : decode cX9_lays_ 0 = .ok (.iload_n 1, 1) := by decide +kernel
theorem dX9_lays__1 : decode cX9_lays_ 1 = .ok (.invokestatic 257, 3) := by decide +kernel
theorem dX9_lays__4 : decode cX9_lays_ 4 = .ok (.ifCond .ne 9, 3) := by decide +kernel
theorem dX9_lays__7 : decode cX9_lays_ 7 = .ok (.aload_n 0, 1) := by decide +kernel
theorem dX9_lays__8 : decode cX9_lays_ 8 = .ok (.iconst (-1), 1) := by decide +kernel
theorem dX9_lays__9 : decode cX9_lays_ 9 = .ok (.invokevirtual 90, 3) := by decide +kernel
theorem dX9_lays__12 : decode cX9_lays_ 12 = .ok (.ireturn, 1) := by decide +kernel
theorem dX9_lays__13 : decode cX9_lays_ 13 = .ok (.aload_n 0, 1) := by decide +kernel
theorem dX9_lays__14 : decode cX9_lays_ 14 = .ok (.getfield 62, 3) := by decide +kernel
theorem dX9_lays__17 : decode cX9_lays_ 17 = .ok (.iload_n 1, 1) := by decide +kernel
theorem dX9_lays__18 : decode cX9_lays_ 18 = .ok (.iaload, 1) := by decide +kernel
theorem dX9_lays__19 : decode cX9_lays_ 19 = .ok (.ifCond .ge 6, 3) := by decide +kernel
theorem dX9_lays__22 : decode cX9_lays_ 22 = .ok (.bipush (-11), 2) := by decide +kernel
theorem dX9_lays__24 : decode cX9_lays_ 24 = .ok (.ireturn, 1) := by decide +kernel
theorem dX9_lays__25 : decode cX9_lays_ 25 = .ok (.aload_n 0, 1) := by decide +kernel
theorem dX9_lays__26 : decode cX9_lays_ 26 = .ok (.getfield 87, 3) := by decide +kernel
theorem dX9_lays__29 : decode cX9_lays_ 29 = .ok (.ifCond .le 27, 3) := by decide +kernel
theorem dX9_lays__32 : decode cX9_lays_ 32 = .ok (.iload_n 2, 1) := by decide +kernel
theorem dX9_lays__33 : decode cX9_lays_ 33 = .ok (.ifCond .lt 20, 3) := by decide +kernel
theorem dX9_lays__36 : decode cX9_lays_ 36 = .ok (.iconst 2, 1) := by decide +kernel
theorem dX9_lays__37 : decode cX9_lays_ 37 = .ok (.aload_n 0, 1) := by decide +kernel
theorem dX9_lays__38 : decode cX9_lays_ 38 = .ok (.getfield 87, 3) := by decide +kernel
theorem dX9_lays__41 : decode cX9_lays_ 41 = .ok (.imul, 1) := by decide +kernel
theorem dX9_lays__42 : decode cX9_lays_ 42 = .ok (.aload_n 0, 1) := by decide +kernel
theorem dX9_lays__43 : decode cX9_lays_ 43 = .ok (.getfield 62, 3) := by decide +kernel
theorem dX9_lays__46 : decode cX9_lays_ 46 = .ok (.iload_n 1, 1) := by decide +kernel
theorem dX9_lays__47 : decode cX9_lays_ 47 = .ok (.iaload, 1) := by decide +kernel
theorem dX9_lays__48 : decode cX9_lays_ 48 = .ok (.iload_n 2, 1) := by decide +kernel
theorem dX9_lays__49 : decode cX9_lays_ 49 = .ok (.isub, 1) := by decide +kernel
theorem dX9_lays__50 : decode cX9_lays_ 50 = .ok (.if_icmp .le 6, 3) := by decide +kernel
theorem dX9_lays__53 : decode cX9_lays_ 53 = .ok (.bipush (-13), 2) := by decide +kernel
theorem dX9_lays__55 : decode cX9_lays_ 55 = .ok (.ireturn, 1) := by decide +kernel
theorem dX9_lays__56 : decode cX9_lays_ 56 = .ok (.iconst 0, 1) := by decide +kernel
theorem dX9_lays__57 : decode cX9_lays_ 57 = .ok (.istore_n 3, 1) := by decide +kernel
theorem dX9_lays__58 : decode cX9_lays_ 58 = .ok (.iload_n 3, 1) := by decide +kernel
theorem dX9_lays__59 : decode cX9_lays_ 59 = .ok (.iconst 2, 1) := by decide +kernel
theorem dX9_lays__60 : decode cX9_lays_ 60 = .ok (.aload_n 0, 1) := by decide +kernel
theorem dX9_lays__61 : decode cX9_lays_ 61 = .ok (.getfield 87, 3) := by decide +kernel
theorem dX9_lays__64 : decode cX9_lays_ 64 = .ok (.imul, 1) := by decide +kernel
theorem dX9_lays__65 : decode cX9_lays_ 65 = .ok (.if_icmp .ge 36, 3) := by decide +kernel
theorem dX9_lays__68 : decode cX9_lays_ 68 = .ok (.aload_n 0, 1) := by decide +kernel
theorem dX9_lays__69 : decode cX9_lays_ 69 = .ok (.getfield 65, 3) := by decide +kernel
theorem dX9_lays__72 : decode cX9_lays_ 72 = .ok (.bipush 40, 2) := by decide +kernel
theorem dX9_lays__74 : decode cX9_lays_ 74 = .ok (.iload_n 1, 1) := by decide +kernel
theorem dX9_lays__75 : decode cX9_lays_ 75 = .ok (.imul, 1) := by decide +kernel
theorem dX9_lays__76 : decode cX9_lays_ 76 = .ok (.iload_n 2, 1) := by decide +kernel
theorem dX9_lays__77 : decode cX9_lays_ 77 = .ok (.iadd, 1) := by decide +kernel
theorem dX9_lays__78 : decode cX9_lays_ 78 = .ok (.iload_n 3, 1) := by decide +kernel
theorem dX9_lays__79 : decode cX9_lays_ 79 = .ok (.iadd, 1) := by decide +kernel
theorem dX9_lays__80 : decode cX9_lays_ 80 = .ok (.aload_n 0, 1) := by decide +kernel
theorem dX9_lays__81 : decode cX9_lays_ 81 = .ok (.getfield 13, 3) := by decide +kernel
theorem dX9_lays__84 : decode cX9_lays_ 84 = .ok (.iconst 3, 1) := by decide +kernel
theorem dX9_lays__85 : decode cX9_lays_ 85 = .ok (.iload_n 3, 1) := by decide +kernel
theorem dX9_lays__86 : decode cX9_lays_ 86 = .ok (.iconst 2, 1) := by decide +kernel
theorem dX9_lays__87 : decode cX9_lays_ 87 = .ok (.idiv, 1) := by decide +kernel
theorem dX9_lays__88 : decode cX9_lays_ 88 = .ok (.imul, 1) := by decide +kernel
theorem dX9_lays__89 : decode cX9_lays_ 89 = .ok (.iload_n 3, 1) := by decide +kernel
theorem dX9_lays__90 : decode cX9_lays_ 90 = .ok (.iconst 2, 1) := by decide +kernel
theorem dX9_lays__91 : decode cX9_lays_ 91 = .ok (.irem, 1) := by decide +kernel
theorem dX9_lays__92 : decode cX9_lays_ 92 = .ok (.iadd, 1) := by decide +kernel
theorem dX9_lays__93 : decode cX9_lays_ 93 = .ok (.iaload, 1) := by decide +kernel
theorem dX9_lays__94 : decode cX9_lays_ 94 = .ok (.iastore, 1) := by decide +kernel
theorem dX9_lays__95 : decode cX9_lays_ 95 = .ok (.iinc 3 1, 3) := by decide +kernel
theorem dX9_lays__98 : decode cX9_lays_ 98 = .ok (.goto (-40), 3) := by decide +kernel
theorem dX9_lays__101 : decode cX9_lays_ 101 = .ok (.iconst 2, 1) := by decide +kernel
theorem dX9_lays__102 : decode cX9_lays_ 102 = .ok (.aload_n 0, 1) := by decide +kernel
theorem dX9_lays__103 : decode cX9_lays_ 103 = .ok (.getfield 87, 3) := by decide +kernel
theorem dX9_lays__106 : decode cX9_lays_ 106 = .ok (.imul, 1) := by decide +kernel
theorem dX9_lays__107 : decode cX9_lays_ 107 = .ok (.ireturn, 1) := by decide +kernel
theorem dX9_judge_0 : decode cX9_judge 0 = .ok (.iload_n 1, 1) := by decide +kernel
theorem dX9_judge_1 : decode cX9_judge 1 = .ok (.invokestatic 257, 3) := by decide +kernel
theorem dX9_judge_4 : decode cX9_judge 4 = .ok (.ifCond .ne 9, 3) := by decide +kernel
theorem dX9_judge_7 : decode cX9_judge 7 = .ok (.aload_n 0, 1) := by decide +kernel
theorem dX9_judge_8 : decode cX9_judge 8 = .ok (.iconst (-1), 1) := by decide +kernel
theorem dX9_judge_9 : decode cX9_judge 9 = .ok (.invokevirtual 90, 3) := by decide +kernel
theorem dX9_judge_12 : decode cX9_judge 12 = .ok (.ireturn, 1) := by decide +kernel
theorem dX9_judge_13 : decode cX9_judge 13 = .ok (.aload_n 0, 1) := by decide +kernel
theorem dX9_judge_14 : decode cX9_judge 14 = .ok (.getfield 62, 3) := by decide +kernel
theorem dX9_judge_17 : decode cX9_judge 17 = .ok (.iload_n 1, 1) := by decide +kernel
theorem dX9_judge_18 : decode cX9_judge 18 = .ok (.iaload, 1) := by decide +kernel
theorem dX9_judge_19 : decode cX9_judge 19 = .ok (.ifCond .ge 6, 3) := by decide +kernel
theorem dX9_judge_22 : decode cX9_judge 22 = .ok (.bipush (-11), 2) := by decide +kernel
theorem dX9_judge_24 : decode cX9_judge 24 = .ok (.ireturn, 1) := by decide +kernel
theorem dX9_judge_25 : decode cX9_judge 25 = .ok (.iconst 0, 1) := by decide +kernel
theorem dX9_judge_26 : decode cX9_judge 26 = .ok (.istore_n 2, 1) := by decide +kernel
theorem dX9_judge_27 : decode cX9_judge 27 = .ok (.iload_n 2, 1) := by decide +kernel
theorem dX9_judge_28 : decode cX9_judge 28 = .ok (.aload_n 0, 1) := by decide +kernel
theorem dX9_judge_29 : decode cX9_judge 29 = .ok (.getfield 62, 3) := by decide +kernel
theorem dX9_judge_32 : decode cX9_judge 32 = .ok (.iload_n 1, 1) := by decide +kernel
theorem dX9_judge_33 : decode cX9_judge 33 = .ok (.iaload, 1) := by decide +kernel
theorem dX9_judge_34 : decode cX9_judge 34 = .ok (.if_icmp .ge 49, 3) := by decide +kernel
theorem dX9_judge_37 : decode cX9_judge 37 = .ok (.iload_n 2, 1) := by decide +kernel
theorem dX9_judge_38 : decode cX9_judge 38 = .ok (.iconst 2, 1) := by decide +kernel
theorem dX9_judge_39 : decode cX9_judge 39 = .ok (.aload_n 0, 1) := by decide +kernel
theorem dX9_judge_40 : decode cX9_judge 40 = .ok (.getfield 87, 3) := by decide +kernel
theorem dX9_judge_43 : decode cX9_judge 43 = .ok (.imul, 1) := by decide +kernel
theorem dX9_judge_44 : decode cX9_judge 44 = .ok (.if_icmp .ge 31, 3) := by decide +kernel
theorem dX9_judge_47 : decode cX9_judge 47 = .ok (.aload_n 0, 1) := by decide +kernel
theorem dX9_judge_48 : decode cX9_judge 48 = .ok (.getfield 65, 3) := by decide +kernel
theorem dX9_judge_51 : decode cX9_judge 51 = .ok (.bipush 40, 2) := by decide +kernel
theorem dX9_judge_53 : decode cX9_judge 53 = .ok (.iload_n 1, 1) := by decide +kernel
theorem dX9_judge_54 : decode cX9_judge 54 = .ok (.imul, 1) := by decide +kernel
theorem dX9_judge_55 : decode cX9_judge 55 = .ok (.iload_n 2, 1) := by decide +kernel
theorem dX9_judge_56 : decode cX9_judge 56 = .ok (.iadd, 1) := by decide +kernel
theorem dX9_judge_57 : decode cX9_judge 57 = .ok (.iaload, 1) := by decide +kernel
theorem dX9_judge_58 : decode cX9_judge 58 = .ok (.aload_n 0, 1) := by decide +kernel
theorem dX9_judge_59 : decode cX9_judge 59 = .ok (.getfield 13, 3) := by decide +kernel
theorem dX9_judge_62 : decode cX9_judge 62 = .ok (.iconst 3, 1) := by decide +kernel
theorem dX9_judge_63 : decode cX9_judge 63 = .ok (.iload_n 2, 1) := by decide +kernel
theorem dX9_judge_64 : decode cX9_judge 64 = .ok (.iconst 2, 1) := by decide +kernel
theorem dX9_judge_65 : decode cX9_judge 65 = .ok (.idiv, 1) := by decide +kernel
theorem dX9_judge_66 : decode cX9_judge 66 = .ok (.imul, 1) := by decide +kernel
theorem dX9_judge_67 : decode cX9_judge 67 = .ok (.iload_n 2, 1) := by decide +kernel
theorem dX9_judge_68 : decode cX9_judge 68 = .ok (.iconst 2, 1) := by decide +kernel
theorem dX9_judge_69 : decode cX9_judge 69 = .ok (.irem, 1) := by decide +kernel
theorem dX9_judge_70 : decode cX9_judge 70 = .ok (.iadd, 1) := by decide +kernel
theorem dX9_judge_71 : decode cX9_judge 71 = .ok (.iaload, 1) := by decide +kernel
theorem dX9_judge_72 : decode cX9_judge 72 = .ok (.if_icmp .eq 5, 3) := by decide +kernel
theorem dX9_judge_75 : decode cX9_judge 75 = .ok (.iload_n 2, 1) := by decide +kernel
theorem dX9_judge_76 : decode cX9_judge 76 = .ok (.ireturn, 1) := by decide +kernel
theorem dX9_judge_77 : decode cX9_judge 77 = .ok (.iinc 2 1, 3) := by decide +kernel
theorem dX9_judge_80 : decode cX9_judge 80 = .ok (.goto (-53), 3) := by decide +kernel
theorem dX9_judge_83 : decode cX9_judge 83 = .ok (.bipush (-9), 2) := by decide +kernel
theorem dX9_judge_85 : decode cX9_judge 85 = .ok (.ireturn, 1) := by decide +kernel
theorem dX9_sizes_0 : decode cX9_sizes 0 = .ok (.iload_n 1, 1) := by decide +kernel
theorem dX9_sizes_1 : decode cX9_sizes 1 = .ok (.invokestatic 257, 3) := by decide +kernel
theorem dX9_sizes_4 : decode cX9_sizes 4 = .ok (.ifCond .ne 9, 3) := by decide +kernel
theorem dX9_sizes_7 : decode cX9_sizes 7 = .ok (.aload_n 0, 1) := by decide +kernel
theorem dX9_sizes_8 : decode cX9_sizes 8 = .ok (.iconst (-1), 1) := by decide +kernel
theorem dX9_sizes_9 : decode cX9_sizes 9 = .ok (.invokevirtual 90, 3) := by decide +kernel
theorem dX9_sizes_12 : decode cX9_sizes 12 = .ok (.ireturn, 1) := by decide +kernel
theorem dX9_sizes_13 : decode cX9_sizes 13 = .ok (.aload_n 0, 1) := by decide +kernel
theorem dX9_sizes_14 : decode cX9_sizes 14 = .ok (.getfield 62, 3) := by decide +kernel
theorem dX9_sizes_17 : decode cX9_sizes 17 = .ok (.iload_n 1, 1) := by decide +kernel
theorem dX9_sizes_18 : decode cX9_sizes 18 = .ok (.iaload, 1) := by decide +kernel
theorem dX9_sizes_19 : decode cX9_sizes 19 = .ok (.ifCond .ge 6, 3) := by decide +kernel
theorem dX9_sizes_22 : decode cX9_sizes 22 = .ok (.bipush (-11), 2) := by decide +kernel
theorem dX9_sizes_24 : decode cX9_sizes 24 = .ok (.ireturn, 1) := by decide +kernel
theorem dX9_sizes_25 : decode cX9_sizes 25 = .ok (.aload_n 0, 1) := by decide +kernel
theorem dX9_sizes_26 : decode cX9_sizes 26 = .ok (.getfield 62, 3) := by decide +kernel
theorem dX9_sizes_29 : decode cX9_sizes 29 = .ok (.iload_n 1, 1) := by decide +kernel
theorem dX9_sizes_30 : decode cX9_sizes 30 = .ok (.iaload, 1) := by decide +kernel
theorem dX9_sizes_31 : decode cX9_sizes 31 = .ok (.iconst 2, 1) := by decide +kernel
theorem dX9_sizes_32 : decode cX9_sizes 32 = .ok (.irem, 1) := by decide +kernel
theorem dX9_sizes_33 : decode cX9_sizes 33 = .ok (.iconst 1, 1) := by decide +kernel
theorem dX9_sizes_34 : decode cX9_sizes 34 = .ok (.if_icmp .ne 10, 3) := by decide +kernel
theorem dX9_sizes_37 : decode cX9_sizes 37 = .ok (.aload_n 0, 1) := by decide +kernel
theorem dX9_sizes_38 : decode cX9_sizes 38 = .ok (.bipush (-3), 2) := by decide +kernel
theorem dX9_sizes_40 : decode cX9_sizes 40 = .ok (.invokevirtual 90, 3) := by decide +kernel
theorem dX9_sizes_43 : decode cX9_sizes 43 = .ok (.ireturn, 1) := by decide +kernel
theorem dX9_sizes_44 : decode cX9_sizes 44 = .ok (.iconst 0, 1) := by decide +kernel
theorem dX9_sizes_45 : decode cX9_sizes 45 = .ok (.istore_n 2, 1) := by decide +kernel
theorem dX9_sizes_46 : decode cX9_sizes 46 = .ok (.iconst 3, 1) := by decide +kernel
theorem dX9_sizes_47 : decode cX9_sizes 47 = .ok (.istore_n 3, 1) := by decide +kernel
theorem dX9_sizes_48 : decode cX9_sizes 48 = .ok (.iload_n 3, 1) := by decide +kernel
theorem dX9_sizes_49 : decode cX9_sizes 49 = .ok (.bipush 13, 2) := by decide +kernel
theorem dX9_sizes_51 : decode cX9_sizes 51 = .ok (.if_icmp .gt 47, 3) := by decide +kernel
theorem dX9_sizes_54 : decode cX9_sizes 54 = .ok (.iload_n 2, 1) := by decide +kernel
theorem dX9_sizes_55 : decode cX9_sizes 55 = .ok (.aload_n 0, 1) := by decide +kernel
theorem dX9_sizes_56 : decode cX9_sizes 56 = .ok (.getfield 65, 3) := by decide +kernel
theorem dX9_sizes_59 : decode cX9_sizes 59 = .ok (.bipush 40, 2) := by decide +kernel
theorem dX9_sizes_61 : decode cX9_sizes 61 = .ok (.iload_n 1, 1) := by decide +kernel
theorem dX9_sizes_62 : decode cX9_sizes 62 = .ok (.imul, 1) := by decide +kernel
theorem dX9_sizes_63 : decode cX9_sizes 63 = .ok (.iconst 2, 1) := by decide +kernel
theorem dX9_sizes_64 : decode cX9_sizes 64 = .ok (.aload_n 0, 1) := by decide +kernel
theorem dX9_sizes_65 : decode cX9_sizes 65 = .ok (.getfield 62, 3) := by decide +kernel
theorem dX9_sizes_68 : decode cX9_sizes 68 = .ok (.iload_n 1, 1) := by decide +kernel
theorem dX9_sizes_69 : decode cX9_sizes 69 = .ok (.iaload, 1) := by decide +kernel
theorem dX9_sizes_70 : decode cX9_sizes 70 = .ok (.iconst 2, 1) := by decide +kernel
theorem dX9_sizes_71 : decode cX9_sizes 71 = .ok (.idiv, 1) := by decide +kernel
theorem dX9_sizes_72 : decode cX9_sizes 72 = .ok (.iload_n 3, 1) := by decide +kernel
theorem dX9_sizes_73 : decode cX9_sizes 73 = .ok (.invokestatic 141, 3) := by decide +kernel
theorem dX9_sizes_76 : decode cX9_sizes 76 = .ok (.ifCond .eq 13, 3) := by decide +kernel
theorem dX9_sizes_79 : decode cX9_sizes 79 = .ok (.iconst 1, 1) := by decide +kernel
theorem dX9_sizes_80 : decode cX9_sizes 80 = .ok (.iload_n 3, 1) := by decide +kernel
theorem dX9_sizes_81 : decode cX9_sizes 81 = .ok (.iconst 3, 1) := by decide +kernel
theorem dX9_sizes_82 : decode cX9_sizes 82 = .ok (.isub, 1) := by decide +kernel
theorem dX9_sizes_83 : decode cX9_sizes 83 = .ok (.iconst 2, 1) := by decide +kernel
theorem dX9_sizes_84 : decode cX9_sizes 84 = .ok (.idiv, 1) := by decide +kernel
theorem dX9_sizes_85 : decode cX9_sizes 85 = .ok (.ishl, 1) := by decide +kernel
theorem dX9_sizes_86 : decode cX9_sizes 86 = .ok (.goto 4, 3) := by decide +kernel
theorem dX9_sizes_89 : decode cX9_sizes 89 = .ok (.iconst 0, 1) := by decide +kernel
theorem dX9_sizes_90 : decode cX9_sizes 90 = .ok (.ior, 1) := by decide +kernel
theorem dX9_sizes_91 : decode cX9_sizes 91 = .ok (.istore_n 2, 1) := by decide +kernel
theorem dX9_sizes_92 : decode cX9_sizes 92 = .ok (.iinc 3 2, 3) := by decide +kernel
theorem dX9_sizes_95 : decode cX9_sizes 95 = .ok (.goto (-47), 3) := by decide +kernel
theorem dX9_sizes_98 : decode cX9_sizes 98 = .ok (.iload_n 2, 1) := by decide +kernel
theorem dX9_sizes_99 : decode cX9_sizes 99 = .ok (.ireturn, 1) := by decide +kernel
theorem dX9_image_0 : decode cX9_image 0 = .ok (.aload_n 0, 1) := by decide +kernel
theorem dX9_image_1 : decode cX9_image 1 = .ok (.iconst 1, 1) := by decide +kernel
theorem dX9_image_2 : decode cX9_image 2 = .ok (.putfield 264, 3) := by decide +kernel
theorem dX9_image_5 : decode cX9_image 5 = .ok (.aload_n 0, 1) := by decide +kernel
theorem dX9_image_6 : decode cX9_image 6 = .ok (.aload_n 0, 1) := by decide +kernel
theorem dX9_image_7 : decode cX9_image 7 = .ok (.getfield 7, 3) := by decide +kernel
theorem dX9_image_10 : decode cX9_image 10 = .ok (.putfield 268, 3) := by decide +kernel
theorem dX9_image_13 : decode cX9_image 13 = .ok (.aload_n 0, 1) := by decide +kernel
theorem dX9_image_14 : decode cX9_image 14 = .ok (.aload_n 0, 1) := by decide +kernel
theorem dX9_image_15 : decode cX9_image 15 = .ok (.getfield 87, 3) := by decide +kernel
theorem dX9_image_18 : decode cX9_image 18 = .ok (.putfield 271, 3) := by decide +kernel
theorem dX9_image_21 : decode cX9_image 21 = .ok (.aload_n 0, 1) := by decide +kernel
theorem dX9_image_22 : decode cX9_image 22 = .ok (.aload_n 0, 1) := by decide +kernel
theorem dX9_image_23 : decode cX9_image 23 = .ok (.getfield 102, 3) := by decide +kernel
theorem dX9_image_26 : decode cX9_image 26 = .ok (.putfield 274, 3) := by decide +kernel
theorem dX9_image_29 : decode cX9_image 29 = .ok (.aload_n 0, 1) := by decide +kernel
theorem dX9_image_30 : decode cX9_image 30 = .ok (.getfield 13, 3) := by decide +kernel
theorem dX9_image_33 : decode cX9_image 33 = .ok (.iconst 0, 1) := by decide +kernel
theorem dX9_image_34 : decode cX9_image 34 = .ok (.aload_n 0, 1) := by decide +kernel
theorem dX9_image_35 : decode cX9_image 35 = .ok (.getfield 68, 3) := by decide +kernel
theorem dX9_image_38 : decode cX9_image 38 = .ok (.iconst 0, 1) := by decide +kernel
theorem dX9_image_39 : decode cX9_image 39 = .ok (.bipush 18, 2) := by decide +kernel
theorem dX9_image_41 : decode cX9_image 41 = .ok (.invokestatic 83, 3) := by decide +kernel
theorem dX9_image_44 : decode cX9_image 44 = .ok (.aload_n 0, 1) := by decide +kernel
theorem dX9_image_45 : decode cX9_image 45 = .ok (.getfield 17, 3) := by decide +kernel
theorem dX9_image_48 : decode cX9_image 48 = .ok (.iconst 0, 1) := by decide +kernel
theorem dX9_image_49 : decode cX9_image 49 = .ok (.aload_n 0, 1) := by decide +kernel
theorem dX9_image_50 : decode cX9_image 50 = .ok (.getfield 71, 3) := by decide +kernel
theorem dX9_image_53 : decode cX9_image 53 = .ok (.iconst 0, 1) := by decide +kernel
theorem dX9_image_54 : decode cX9_image 54 = .ok (.sipush 338, 3) := by decide +kernel
theorem dX9_image_57 : decode cX9_image 57 = .ok (.invokestatic 83, 3) := by decide +kernel
theorem dX9_image_60 : decode cX9_image 60 = .ok (.aload_n 0, 1) := by decide +kernel
theorem dX9_image_61 : decode cX9_image 61 = .ok (.getfield 20, 3) := by decide +kernel
theorem dX9_image_64 : decode cX9_image 64 = .ok (.iconst 0, 1) := by decide +kernel
theorem dX9_image_65 : decode cX9_image 65 = .ok (.aload_n 0, 1) := by decide +kernel
theorem dX9_image_66 : decode cX9_image 66 = .ok (.getfield 74, 3) := by decide +kernel
theorem dX9_image_69 : decode cX9_image 69 = .ok (.iconst 0, 1) := by decide +kernel
theorem dX9_image_70 : decode cX9_image 70 = .ok (.bipush 12, 2) := by decide +kernel
theorem dX9_image_72 : decode cX9_image 72 = .ok (.invokestatic 83, 3) := by decide +kernel
theorem dX9_image_75 : decode cX9_image 75 = .ok (.aload_n 0, 1) := by decide +kernel
theorem dX9_image_76 : decode cX9_image 76 = .ok (.getfield 87, 3) := by decide +kernel
theorem dX9_image_79 : decode cX9_image 79 = .ok (.ireturn, 1) := by decide +kernel
theorem dX9_on_0 : decode cX9_on 0 = .ok (.aload_n 0, 1) := by decide +kernel
theorem dX9_on_1 : decode cX9_on 1 = .ok (.getfield 264, 3) := by decide +kernel
theorem dX9_on_4 : decode cX9_on 4 = .ok (.ifCond .ne 10, 3) := by decide +kernel
theorem dX9_on_7 : decode cX9_on 7 = .ok (.aload_n 0, 1) := by decide +kernel
theorem dX9_on_8 : decode cX9_on 8 = .ok (.bipush (-3), 2) := by decide +kernel
theorem dX9_on_10 : decode cX9_on 10 = .ok (.invokevirtual 90, 3) := by decide +kernel
theorem dX9_on_13 : decode cX9_on 13 = .ok (.ireturn, 1) := by decide +kernel
theorem dX9_on_14 : decode cX9_on 14 = .ok (.aload_n 0, 1) := by decide +kernel
theorem dX9_on_15 : decode cX9_on 15 = .ok (.aload_n 0, 1) := by decide +kernel
theorem dX9_on_16 : decode cX9_on 16 = .ok (.getfield 268, 3) := by decide +kernel
theorem dX9_on_19 : decode cX9_on 19 = .ok (.putfield 7, 3) := by decide +kernel
theorem dX9_on_22 : decode cX9_on 22 = .ok (.aload_n 0, 1) := by decide +kernel
theorem dX9_on_23 : decode cX9_on 23 = .ok (.aload_n 0, 1) := by decide +kernel
theorem dX9_on_24 : decode cX9_on 24 = .ok (.getfield 271, 3) := by decide +kernel
theorem dX9_on_27 : decode cX9_on 27 = .ok (.putfield 87, 3) := by decide +kernel
theorem dX9_on_30 : decode cX9_on 30 = .ok (.aload_n 0, 1) := by decide +kernel
theorem dX9_on_31 : decode cX9_on 31 = .ok (.aload_n 0, 1) := by decide +kernel
theorem dX9_on_32 : decode cX9_on 32 = .ok (.getfield 274, 3) := by decide +kernel
theorem dX9_on_35 : decode cX9_on 35 = .ok (.putfield 102, 3) := by decide +kernel
theorem dX9_on_38 : decode cX9_on 38 = .ok (.aload_n 0, 1) := by decide +kernel
theorem dX9_on_39 : decode cX9_on 39 = .ok (.getfield 68, 3) := by decide +kernel
theorem dX9_on_42 : decode cX9_on 42 = .ok (.iconst 0, 1) := by decide +kernel
theorem dX9_on_43 : decode cX9_on 43 = .ok (.aload_n 0, 1) := by decide +kernel
theorem dX9_on_44 : decode cX9_on 44 = .ok (.getfield 13, 3) := by decide +kernel
theorem dX9_on_47 : decode cX9_on 47 = .ok (.iconst 0, 1) := by decide +kernel
theorem dX9_on_48 : decode cX9_on 48 = .ok (.bipush 18, 2) := by decide +kernel
theorem dX9_on_50 : decode cX9_on 50 = .ok (.invokestatic 83, 3) := by decide +kernel
theorem dX9_on_53 : decode cX9_on 53 = .ok (.aload_n 0, 1) := by decide +kernel
theorem dX9_on_54 : decode cX9_on 54 = .ok (.getfield 71, 3) := by decide +kernel
theorem dX9_on_57 : decode cX9_on 57 = .ok (.iconst 0, 1) := by decide +kernel
theorem dX9_on_58 : decode cX9_on 58 = .ok (.aload_n 0, 1) := by decide +kernel
theorem dX9_on_59 : decode cX9_on 59 = .ok (.getfield 17, 3) := by decide +kernel
theorem dX9_on_62 : decode cX9_on 62 = .ok (.iconst 0, 1) := by decide +kernel
theorem dX9_on_63 : decode cX9_on 63 = .ok (.sipush 338, 3) := by decide +kernel
theorem dX9_on_66 : decode cX9_on 66 = .ok (.invokestatic 83, 3) := by decide +kernel
theorem dX9_on_69 : decode cX9_on 69 = .ok (.aload_n 0, 1) := by decide +kernel
theorem dX9_on_70 : decode cX9_on 70 = .ok (.getfield 74, 3) := by decide +kernel
theorem dX9_on_73 : decode cX9_on 73 = .ok (.iconst 0, 1) := by decide +kernel
theorem dX9_on_74 : decode cX9_on 74 = .ok (.aload_n 0, 1) := by decide +kernel
theorem dX9_on_75 : decode cX9_on 75 = .ok (.getfield 20, 3) := by decide +kernel
theorem dX9_on_78 : decode cX9_on 78 = .ok (.iconst 0, 1) := by decide +kernel
theorem dX9_on_79 : decode cX9_on 79 = .ok (.bipush 12, 2) := by decide +kernel
theorem dX9_on_81 : decode cX9_on 81 = .ok (.invokestatic 83, 3) := by decide +kernel
theorem dX9_on_84 : decode cX9_on 84 = .ok (.aload_n 0, 1) := by decide +kernel
theorem dX9_on_85 : decode cX9_on 85 = .ok (.iconst 0, 1) := by decide +kernel
theorem dX9_on_86 : decode cX9_on 86 = .ok (.putfield 80, 3) := by decide +kernel
theorem dX9_on_89 : decode cX9_on 89 = .ok (.aload_n 0, 1) := by decide +kernel
theorem dX9_on_90 : decode cX9_on 90 = .ok (.getfield 87, 3) := by decide +kernel
theorem dX9_on_93 : decode cX9_on 93 = .ok (.ireturn, 1) := by decide +kernel
theorem dX9_filled_0 : decode cX9_filled 0 = .ok (.iconst 0, 1) := by decide +kernel
theorem dX9_filled_1 : decode cX9_filled 1 = .ok (.istore_n 1, 1) := by decide +kernel
theorem dX9_filled_2 : decode cX9_filled 2 = .ok (.iconst 0, 1) := by decide +kernel
theorem dX9_filled_3 : decode cX9_filled 3 = .ok (.istore_n 2, 1) := by decide +kernel
theorem dX9_filled_4 : decode cX9_filled 4 = .ok (.iload_n 2, 1) := by decide +kernel
theorem dX9_filled_5 : decode cX9_filled 5 = .ok (.sipush 169, 3) := by decide +kernel
theorem dX9_filled_8 : decode cX9_filled 8 = .ok (.if_icmp .ge 28, 3) := by decide +kernel
theorem dX9_filled_11 : decode cX9_filled 11 = .ok (.iload_n 1, 1) := by decide +kernel
theorem dX9_filled_12 : decode cX9_filled 12 = .ok (.aload_n 0, 1) := by decide +kernel
theorem dX9_filled_13 : decode cX9_filled 13 = .ok (.getfield 17, 3) := by decide +kernel
theorem dX9_filled_16 : decode cX9_filled 16 = .ok (.iconst 2, 1) := by decide +kernel
theorem dX9_filled_17 : decode cX9_filled 17 = .ok (.iload_n 2, 1) := by decide +kernel
theorem dX9_filled_18 : decode cX9_filled 18 = .ok (.imul, 1) := by decide +kernel
theorem dX9_filled_19 : decode cX9_filled 19 = .ok (.iaload, 1) := by decide +kernel
theorem dX9_filled_20 : decode cX9_filled 20 = .ok (.ifCond .ge 7, 3) := by decide +kernel
theorem dX9_filled_23 : decode cX9_filled 23 = .ok (.iconst 0, 1) := by decide +kernel
theorem dX9_filled_24 : decode cX9_filled 24 = .ok (.goto 4, 3) := by decide +kernel
theorem dX9_filled_27 : decode cX9_filled 27 = .ok (.iconst 1, 1) := by decide +kernel
theorem dX9_filled_28 : decode cX9_filled 28 = .ok (.iadd, 1) := by decide +kernel
theorem dX9_filled_29 : decode cX9_filled 29 = .ok (.istore_n 1, 1) := by decide +kernel
theorem dX9_filled_30 : decode cX9_filled 30 = .ok (.iinc 2 1, 3) := by decide +kernel
theorem dX9_filled_33 : decode cX9_filled 33 = .ok (.goto (-29), 3) := by decide +kernel
theorem dX9_filled_36 : decode cX9_filled 36 = .ok (.iload_n 1, 1) := by decide +kernel
theorem dX9_filled_37 : decode cX9_filled 37 = .ok (.ireturn, 1) := by decide +kernel
theorem dX9_count_0 : decode cX9_count 0 = .ok (.iload_n 1, 1) := by decide +kernel
theorem dX9_count_1 : decode cX9_count 1 = .ok (.tableswitch 69 0 5 #[39, 44, 49, 54, 59, 64], 39) := by decide +kernel
theorem dX9_count_40 : decode cX9_count 40 = .ok (.aload_n 0, 1) := by decide +kernel
theorem dX9_count_41 : decode cX9_count 41 = .ok (.getfield 7, 3) := by decide +kernel
theorem dX9_count_44 : decode cX9_count 44 = .ok (.ireturn, 1) := by decide +kernel
theorem dX9_count_45 : decode cX9_count 45 = .ok (.aload_n 0, 1) := by decide +kernel
theorem dX9_count_46 : decode cX9_count 46 = .ok (.getfield 87, 3) := by decide +kernel
theorem dX9_count_49 : decode cX9_count 49 = .ok (.ireturn, 1) := by decide +kernel
theorem dX9_count_50 : decode cX9_count 50 = .ok (.aload_n 0, 1) := by decide +kernel
theorem dX9_count_51 : decode cX9_count 51 = .ok (.getfield 102, 3) := by decide +kernel
theorem dX9_count_54 : decode cX9_count 54 = .ok (.ireturn, 1) := by decide +kernel
theorem dX9_count_55 : decode cX9_count 55 = .ok (.aload_n 0, 1) := by decide +kernel
theorem dX9_count_56 : decode cX9_count 56 = .ok (.invokevirtual 277, 3) := by decide +kernel
theorem dX9_count_59 : decode cX9_count 59 = .ok (.ireturn, 1) := by decide +kernel
theorem dX9_count_60 : decode cX9_count 60 = .ok (.aload_n 0, 1) := by decide +kernel
theorem dX9_count_61 : decode cX9_count 61 = .ok (.getfield 238, 3) := by decide +kernel
theorem dX9_count_64 : decode cX9_count 64 = .ok (.ireturn, 1) := by decide +kernel
theorem dX9_count_65 : decode cX9_count 65 = .ok (.aload_n 0, 1) := by decide +kernel
theorem dX9_count_66 : decode cX9_count 66 = .ok (.getfield 80, 3) := by decide +kernel
theorem dX9_count_69 : decode cX9_count 69 = .ok (.ireturn, 1) := by decide +kernel
theorem dX9_count_70 : decode cX9_count 70 = .ok (.iload_n 1, 1) := by decide +kernel
theorem dX9_count_71 : decode cX9_count 71 = .ok (.i2l, 1) := by decide +kernel
theorem dX9_count_72 : decode cX9_count 72 = .ok (.ldc2_w 280, 3) := by decide +kernel
theorem dX9_count_75 : decode cX9_count 75 = .ok (.ldc2_w 282, 3) := by decide +kernel
theorem dX9_count_78 : decode cX9_count 78 = .ok (.invokestatic 98, 3) := by decide +kernel
theorem dX9_count_81 : decode cX9_count 81 = .ok (.ifCond .eq 15, 3) := by decide +kernel
theorem dX9_count_84 : decode cX9_count 84 = .ok (.aload_n 0, 1) := by decide +kernel
theorem dX9_count_85 : decode cX9_count 85 = .ok (.getfield 23, 3) := by decide +kernel
theorem dX9_count_88 : decode cX9_count 88 = .ok (.iload_n 1, 1) := by decide +kernel
theorem dX9_count_89 : decode cX9_count 89 = .ok (.bipush 10, 2) := by decide +kernel
theorem dX9_count_91 : decode cX9_count 91 = .ok (.isub, 1) := by decide +kernel
theorem dX9_count_92 : decode cX9_count 92 = .ok (.iaload, 1) := by decide +kernel
theorem dX9_count_93 : decode cX9_count 93 = .ok (.goto 5, 3) := by decide +kernel
theorem dX9_count_96 : decode cX9_count 96 = .ok (.bipush (-9), 2) := by decide +kernel
theorem dX9_count_98 : decode cX9_count 98 = .ok (.ireturn, 1) := by decide +kernel
theorem dJ6_bitCount_0f7a4_0 : decode cJ6_bitCount_0f7a4 0 = .ok (.iload_n 0, 1) := by decide +kernel
theorem dJ6_bitCount_0f7a4_1 : decode cJ6_bitCount_0f7a4 1 = .ok (.iload_n 0, 1) := by decide +kernel
theorem dJ6_bitCount_0f7a4_2 : decode cJ6_bitCount_0f7a4 2 = .ok (.iconst 1, 1) := by decide +kernel
theorem dJ6_bitCount_0f7a4_3 : decode cJ6_bitCount_0f7a4 3 = .ok (.iushr, 1) := by decide +kernel
theorem dJ6_bitCount_0f7a4_4 : decode cJ6_bitCount_0f7a4 4 = .ok (.ldc_w 265, 3) := by decide +kernel
theorem dJ6_bitCount_0f7a4_7 : decode cJ6_bitCount_0f7a4 7 = .ok (.iand, 1) := by decide +kernel
theorem dJ6_bitCount_0f7a4_8 : decode cJ6_bitCount_0f7a4 8 = .ok (.isub, 1) := by decide +kernel
theorem dJ6_bitCount_0f7a4_9 : decode cJ6_bitCount_0f7a4 9 = .ok (.istore_n 0, 1) := by decide +kernel
theorem dJ6_bitCount_0f7a4_10 : decode cJ6_bitCount_0f7a4 10 = .ok (.iload_n 0, 1) := by decide +kernel
theorem dJ6_bitCount_0f7a4_11 : decode cJ6_bitCount_0f7a4 11 = .ok (.ldc_w 266, 3) := by decide +kernel
theorem dJ6_bitCount_0f7a4_14 : decode cJ6_bitCount_0f7a4 14 = .ok (.iand, 1) := by decide +kernel
theorem dJ6_bitCount_0f7a4_15 : decode cJ6_bitCount_0f7a4 15 = .ok (.iload_n 0, 1) := by decide +kernel
theorem dJ6_bitCount_0f7a4_16 : decode cJ6_bitCount_0f7a4 16 = .ok (.iconst 2, 1) := by decide +kernel
theorem dJ6_bitCount_0f7a4_17 : decode cJ6_bitCount_0f7a4 17 = .ok (.iushr, 1) := by decide +kernel
theorem dJ6_bitCount_0f7a4_18 : decode cJ6_bitCount_0f7a4 18 = .ok (.ldc_w 266, 3) := by decide +kernel
theorem dJ6_bitCount_0f7a4_21 : decode cJ6_bitCount_0f7a4 21 = .ok (.iand, 1) := by decide +kernel
theorem dJ6_bitCount_0f7a4_22 : decode cJ6_bitCount_0f7a4 22 = .ok (.iadd, 1) := by decide +kernel
theorem dJ6_bitCount_0f7a4_23 : decode cJ6_bitCount_0f7a4 23 = .ok (.istore_n 0, 1) := by decide +kernel
theorem dJ6_bitCount_0f7a4_24 : decode cJ6_bitCount_0f7a4 24 = .ok (.iload_n 0, 1) := by decide +kernel
theorem dJ6_bitCount_0f7a4_25 : decode cJ6_bitCount_0f7a4 25 = .ok (.iload_n 0, 1) := by decide +kernel
theorem dJ6_bitCount_0f7a4_26 : decode cJ6_bitCount_0f7a4 26 = .ok (.iconst 4, 1) := by decide +kernel
theorem dJ6_bitCount_0f7a4_27 : decode cJ6_bitCount_0f7a4 27 = .ok (.iushr, 1) := by decide +kernel
theorem dJ6_bitCount_0f7a4_28 : decode cJ6_bitCount_0f7a4 28 = .ok (.iadd, 1) := by decide +kernel
theorem dJ6_bitCount_0f7a4_29 : decode cJ6_bitCount_0f7a4 29 = .ok (.ldc_w 267, 3) := by decide +kernel
theorem dJ6_bitCount_0f7a4_32 : decode cJ6_bitCount_0f7a4 32 = .ok (.iand, 1) := by decide +kernel
theorem dJ6_bitCount_0f7a4_33 : decode cJ6_bitCount_0f7a4 33 = .ok (.istore_n 0, 1) := by decide +kernel
theorem dJ6_bitCount_0f7a4_34 : decode cJ6_bitCount_0f7a4 34 = .ok (.iload_n 0, 1) := by decide +kernel
theorem dJ6_bitCount_0f7a4_35 : decode cJ6_bitCount_0f7a4 35 = .ok (.iload_n 0, 1) := by decide +kernel
theorem dJ6_bitCount_0f7a4_36 : decode cJ6_bitCount_0f7a4 36 = .ok (.bipush 8, 2) := by decide +kernel
theorem dJ6_bitCount_0f7a4_38 : decode cJ6_bitCount_0f7a4 38 = .ok (.iushr, 1) := by decide +kernel
theorem dJ6_bitCount_0f7a4_39 : decode cJ6_bitCount_0f7a4 39 = .ok (.iadd, 1) := by decide +kernel
theorem dJ6_bitCount_0f7a4_40 : decode cJ6_bitCount_0f7a4 40 = .ok (.istore_n 0, 1) := by decide +kernel
theorem dJ6_bitCount_0f7a4_41 : decode cJ6_bitCount_0f7a4 41 = .ok (.iload_n 0, 1) := by decide +kernel
theorem dJ6_bitCount_0f7a4_42 : decode cJ6_bitCount_0f7a4 42 = .ok (.iload_n 0, 1) := by decide +kernel
theorem dJ6_bitCount_0f7a4_43 : decode cJ6_bitCount_0f7a4 43 = .ok (.bipush 16, 2) := by decide +kernel
theorem dJ6_bitCount_0f7a4_45 : decode cJ6_bitCount_0f7a4 45 = .ok (.iushr, 1) := by decide +kernel
theorem dJ6_bitCount_0f7a4_46 : decode cJ6_bitCount_0f7a4 46 = .ok (.iadd, 1) := by decide +kernel
theorem dJ6_bitCount_0f7a4_47 : decode cJ6_bitCount_0f7a4 47 = .ok (.istore_n 0, 1) := by decide +kernel
theorem dJ6_bitCount_0f7a4_48 : decode cJ6_bitCount_0f7a4 48 = .ok (.iload_n 0, 1) := by decide +kernel
theorem dJ6_bitCount_0f7a4_49 : decode cJ6_bitCount_0f7a4 49 = .ok (.bipush 63, 2) := by decide +kernel
theorem dJ6_bitCount_0f7a4_51 : decode cJ6_bitCount_0f7a4 51 = .ok (.iand, 1) := by decide +kernel
theorem dJ6_bitCount_0f7a4_52 : decode cJ6_bitCount_0f7a4 52 = .ok (.ireturn, 1) := by decide +kernel
theorem dJ9_floorMod_7cf53_0 : decode cJ9_floorMod_7cf53 0 = .ok (.iload_n 0, 1) := by decide +kernel
theorem dJ9_floorMod_7cf53_1 : decode cJ9_floorMod_7cf53 1 = .ok (.iload_n 1, 1) := by decide +kernel
theorem dJ9_floorMod_7cf53_2 : decode cJ9_floorMod_7cf53 2 = .ok (.irem, 1) := by decide +kernel
theorem dJ9_floorMod_7cf53_3 : decode cJ9_floorMod_7cf53 3 = .ok (.istore_n 2, 1) := by decide +kernel
theorem dJ9_floorMod_7cf53_4 : decode cJ9_floorMod_7cf53 4 = .ok (.iload_n 0, 1) := by decide +kernel
theorem dJ9_floorMod_7cf53_5 : decode cJ9_floorMod_7cf53 5 = .ok (.iload_n 1, 1) := by decide +kernel
theorem dJ9_floorMod_7cf53_6 : decode cJ9_floorMod_7cf53 6 = .ok (.ixor, 1) := by decide +kernel
theorem dJ9_floorMod_7cf53_7 : decode cJ9_floorMod_7cf53 7 = .ok (.ifCond .ge 11, 3) := by decide +kernel
theorem dJ9_floorMod_7cf53_10 : decode cJ9_floorMod_7cf53 10 = .ok (.iload_n 2, 1) := by decide +kernel
theorem dJ9_floorMod_7cf53_11 : decode cJ9_floorMod_7cf53 11 = .ok (.ifCond .eq 7, 3) := by decide +kernel
theorem dJ9_floorMod_7cf53_14 : decode cJ9_floorMod_7cf53 14 = .ok (.iload_n 2, 1) := by decide +kernel
theorem dJ9_floorMod_7cf53_15 : decode cJ9_floorMod_7cf53 15 = .ok (.iload_n 1, 1) := by decide +kernel
theorem dJ9_floorMod_7cf53_16 : decode cJ9_floorMod_7cf53 16 = .ok (.iadd, 1) := by decide +kernel
theorem dJ9_floorMod_7cf53_17 : decode cJ9_floorMod_7cf53 17 = .ok (.ireturn, 1) := by decide +kernel
theorem dJ9_floorMod_7cf53_18 : decode cJ9_floorMod_7cf53 18 = .ok (.iload_n 2, 1) := by decide +kernel
theorem dJ9_floorMod_7cf53_19 : decode cJ9_floorMod_7cf53 19 = .ok (.ireturn, 1) := by decide +kernel
theorem dJ9_max_7cf53_0 : decode cJ9_max_7cf53 0 = .ok (.iload_n 0, 1) := by decide +kernel
theorem dJ9_max_7cf53_1 : decode cJ9_max_7cf53 1 = .ok (.iload_n 1, 1) := by decide +kernel
theorem dJ9_max_7cf53_2 : decode cJ9_max_7cf53 2 = .ok (.if_icmp .lt 7, 3) := by decide +kernel
theorem dJ9_max_7cf53_5 : decode cJ9_max_7cf53 5 = .ok (.iload_n 0, 1) := by decide +kernel
theorem dJ9_max_7cf53_6 : decode cJ9_max_7cf53 6 = .ok (.goto 4, 3) := by decide +kernel
theorem dJ9_max_7cf53_9 : decode cJ9_max_7cf53 9 = .ok (.iload_n 1, 1) := by decide +kernel
theorem dJ9_max_7cf53_10 : decode cJ9_max_7cf53 10 = .ok (.ireturn, 1) := by decide +kernel
theorem dJ9_min_7cf53_0 : decode cJ9_min_7cf53 0 = .ok (.iload_n 0, 1) := by decide +kernel
theorem dJ9_min_7cf53_1 : decode cJ9_min_7cf53 1 = .ok (.iload_n 1, 1) := by decide +kernel
theorem dJ9_min_7cf53_2 : decode cJ9_min_7cf53 2 = .ok (.if_icmp .gt 7, 3) := by decide +kernel
theorem dJ9_min_7cf53_5 : decode cJ9_min_7cf53 5 = .ok (.iload_n 0, 1) := by decide +kernel
theorem dJ9_min_7cf53_6 : decode cJ9_min_7cf53 6 = .ok (.goto 4, 3) := by decide +kernel
theorem dJ9_min_7cf53_9 : decode cJ9_min_7cf53 9 = .ok (.iload_n 1, 1) := by decide +kernel
theorem dJ9_min_7cf53_10 : decode cJ9_min_7cf53 10 = .ok (.ireturn, 1) := by decide +kernel
theorem dL_law_0 : decode cL_law 0 = .ok (.new 7, 3) := by decide +kernel
theorem dL_law_3 : decode cL_law 3 = .ok (.dup, 1) := by decide +kernel
theorem dL_law_4 : decode cL_law 4 = .ok (.invokespecial 9, 3) := by decide +kernel
theorem dL_law_7 : decode cL_law 7 = .ok (.astore_n 1, 1) := by decide +kernel
theorem dL_law_8 : decode cL_law 8 = .ok (.new 10, 3) := by decide +kernel
theorem dL_law_11 : decode cL_law 11 = .ok (.dup, 1) := by decide +kernel
theorem dL_law_12 : decode cL_law 12 = .ok (.invokespecial 12, 3) := by decide +kernel
theorem dL_law_15 : decode cL_law 15 = .ok (.astore_n 2, 1) := by decide +kernel
theorem dL_law_16 : decode cL_law 16 = .ok (.iconst 0, 1) := by decide +kernel
theorem dL_law_17 : decode cL_law 17 = .ok (.istore_n 3, 1) := by decide +kernel
theorem dL_law_18 : decode cL_law 18 = .ok (.iload_n 3, 1) := by decide +kernel
theorem dL_law_19 : decode cL_law 19 = .ok (.aload_n 0, 1) := by decide +kernel
theorem dL_law_20 : decode cL_law 20 = .ok (.arraylength, 1) := by decide +kernel
theorem dL_law_21 : decode cL_law 21 = .ok (.iconst 5, 1) := by decide +kernel
theorem dL_law_22 : decode cL_law 22 = .ok (.isub, 1) := by decide +kernel
theorem dL_law_23 : decode cL_law 23 = .ok (.if_icmp .gt 1105, 3) := by decide +kernel
theorem dL_law_26 : decode cL_law 26 = .ok (.aload_n 0, 1) := by decide +kernel
theorem dL_law_27 : decode cL_law 27 = .ok (.iload_n 3, 1) := by decide +kernel
theorem dL_law_28 : decode cL_law 28 = .ok (.iaload, 1) := by decide +kernel
theorem dL_law_29 : decode cL_law 29 = .ok (.bipush 63, 2) := by decide +kernel
theorem dL_law_31 : decode cL_law 31 = .ok (.iand, 1) := by decide +kernel
theorem dL_law_32 : decode cL_law 32 = .ok (.tableswitch 1090 0 35 #[160, 183, 196, 219, 252, 265, 298, 331, 354, 367, 390, 403, 456, 499, 532, 545, 558, 591, 624, 647, 680, 704, 747, 780, 793, 826, 839, 872, 915, 949, 982, 1005, 1028, 1041, 1054, 1067], 160) := by decide +kernel
theorem dL_law_192 : decode cL_law 192 = .ok (.aload_n 1, 1) := by decide +kernel
theorem dL_law_193 : decode cL_law 193 = .ok (.aload_n 0, 1) := by decide +kernel
theorem dL_law_194 : decode cL_law 194 = .ok (.iload_n 3, 1) := by decide +kernel
theorem dL_law_195 : decode cL_law 195 = .ok (.iconst 1, 1) := by decide +kernel
theorem dL_law_196 : decode cL_law 196 = .ok (.iadd, 1) := by decide +kernel
theorem dL_law_197 : decode cL_law 197 = .ok (.iaload, 1) := by decide +kernel
theorem dL_law_198 : decode cL_law 198 = .ok (.invokevirtual 13, 3) := by decide +kernel
theorem dL_law_201 : decode cL_law 201 = .ok (.aload_n 2, 1) := by decide +kernel
theorem dL_law_202 : decode cL_law 202 = .ok (.aload_n 0, 1) := by decide +kernel
theorem dL_law_203 : decode cL_law 203 = .ok (.iload_n 3, 1) := by decide +kernel
theorem dL_law_204 : decode cL_law 204 = .ok (.iconst 1, 1) := by decide +kernel
theorem dL_law_205 : decode cL_law 205 = .ok (.iadd, 1) := by decide +kernel
theorem dL_law_206 : decode cL_law 206 = .ok (.iaload, 1) := by decide +kernel
theorem dL_law_207 : decode cL_law 207 = .ok (.invokevirtual 17, 3) := by decide +kernel
theorem dL_law_210 : decode cL_law 210 = .ok (.if_icmp .eq 912, 3) := by decide +kernel
theorem dL_law_213 : decode cL_law 213 = .ok (.iconst 0, 1) := by decide +kernel
theorem dL_law_214 : decode cL_law 214 = .ok (.ireturn, 1) := by decide +kernel
theorem dL_law_215 : decode cL_law 215 = .ok (.aload_n 1, 1) := by decide +kernel
theorem dL_law_216 : decode cL_law 216 = .ok (.invokevirtual 18, 3) := by decide +kernel
theorem dL_law_219 : decode cL_law 219 = .ok (.aload_n 2, 1) := by decide +kernel
theorem dL_law_220 : decode cL_law 220 = .ok (.invokevirtual 22, 3) := by decide +kernel
theorem dL_law_223 : decode cL_law 223 = .ok (.if_icmp .eq 899, 3) := by decide +kernel
theorem dL_law_226 : decode cL_law 226 = .ok (.iconst 0, 1) := by decide +kernel
theorem dL_law_227 : decode cL_law 227 = .ok (.ireturn, 1) := by decide +kernel
theorem dL_law_228 : decode cL_law 228 = .ok (.aload_n 1, 1) := by decide +kernel
theorem dL_law_229 : decode cL_law 229 = .ok (.aload_n 0, 1) := by decide +kernel
theorem dL_law_230 : decode cL_law 230 = .ok (.iload_n 3, 1) := by decide +kernel
theorem dL_law_231 : decode cL_law 231 = .ok (.iconst 1, 1) := by decide +kernel
theorem dL_law_232 : decode cL_law 232 = .ok (.iadd, 1) := by decide +kernel
theorem dL_law_233 : decode cL_law 233 = .ok (.iaload, 1) := by decide +kernel
theorem dL_law_234 : decode cL_law 234 = .ok (.invokevirtual 23, 3) := by decide +kernel
theorem dL_law_237 : decode cL_law 237 = .ok (.aload_n 2, 1) := by decide +kernel
theorem dL_law_238 : decode cL_law 238 = .ok (.aload_n 0, 1) := by decide +kernel
theorem dL_law_239 : decode cL_law 239 = .ok (.iload_n 3, 1) := by decide +kernel
theorem dL_law_240 : decode cL_law 240 = .ok (.iconst 1, 1) := by decide +kernel
theorem dL_law_241 : decode cL_law 241 = .ok (.iadd, 1) := by decide +kernel
theorem dL_law_242 : decode cL_law 242 = .ok (.iaload, 1) := by decide +kernel
theorem dL_law_243 : decode cL_law 243 = .ok (.invokevirtual 26, 3) := by decide +kernel
theorem dL_law_246 : decode cL_law 246 = .ok (.if_icmp .eq 876, 3) := by decide +kernel
theorem dL_law_249 : decode cL_law 249 = .ok (.iconst 0, 1) := by decide +kernel
theorem dL_law_250 : decode cL_law 250 = .ok (.ireturn, 1) := by decide +kernel
theorem dL_law_251 : decode cL_law 251 = .ok (.aload_n 1, 1) := by decide +kernel
theorem dL_law_252 : decode cL_law 252 = .ok (.aload_n 0, 1) := by decide +kernel
theorem dL_law_253 : decode cL_law 253 = .ok (.iload_n 3, 1) := by decide +kernel
theorem dL_law_254 : decode cL_law 254 = .ok (.iconst 1, 1) := by decide +kernel
theorem dL_law_255 : decode cL_law 255 = .ok (.iadd, 1) := by decide +kernel
theorem dL_law_256 : decode cL_law 256 = .ok (.iaload, 1) := by decide +kernel
theorem dL_law_257 : decode cL_law 257 = .ok (.aload_n 0, 1) := by decide +kernel
theorem dL_law_258 : decode cL_law 258 = .ok (.iload_n 3, 1) := by decide +kernel
theorem dL_law_259 : decode cL_law 259 = .ok (.iconst 2, 1) := by decide +kernel
theorem dL_law_260 : decode cL_law 260 = .ok (.iadd, 1) := by decide +kernel
theorem dL_law_261 : decode cL_law 261 = .ok (.iaload, 1) := by decide +kernel
theorem dL_law_262 : decode cL_law 262 = .ok (.invokevirtual 27, 3) := by decide +kernel
theorem dL_law_265 : decode cL_law 265 = .ok (.aload_n 2, 1) := by decide +kernel
theorem dL_law_266 : decode cL_law 266 = .ok (.aload_n 0, 1) := by decide +kernel
theorem dL_law_267 : decode cL_law 267 = .ok (.iload_n 3, 1) := by decide +kernel
theorem dL_law_268 : decode cL_law 268 = .ok (.iconst 1, 1) := by decide +kernel
theorem dL_law_269 : decode cL_law 269 = .ok (.iadd, 1) := by decide +kernel
theorem dL_law_270 : decode cL_law 270 = .ok (.iaload, 1) := by decide +kernel
theorem dL_law_271 : decode cL_law 271 = .ok (.aload_n 0, 1) := by decide +kernel
theorem dL_law_272 : decode cL_law 272 = .ok (.iload_n 3, 1) := by decide +kernel
theorem dL_law_273 : decode cL_law 273 = .ok (.iconst 2, 1) := by decide +kernel
theorem dL_law_274 : decode cL_law 274 = .ok (.iadd, 1) := by decide +kernel
theorem dL_law_275 : decode cL_law 275 = .ok (.iaload, 1) := by decide +kernel
theorem dL_law_276 : decode cL_law 276 = .ok (.invokevirtual 31, 3) := by decide +kernel
theorem dL_law_279 : decode cL_law 279 = .ok (.if_icmp .eq 843, 3) := by decide +kernel
theorem dL_law_282 : decode cL_law 282 = .ok (.iconst 0, 1) := by decide +kernel
theorem dL_law_283 : decode cL_law 283 = .ok (.ireturn, 1) := by decide +kernel
theorem dL_law_284 : decode cL_law 284 = .ok (.aload_n 1, 1) := by decide +kernel
theorem dL_law_285 : decode cL_law 285 = .ok (.invokevirtual 32, 3) := by decide +kernel
theorem dL_law_288 : decode cL_law 288 = .ok (.aload_n 2, 1) := by decide +kernel
theorem dL_law_289 : decode cL_law 289 = .ok (.invokevirtual 35, 3) := by decide +kernel
theorem dL_law_292 : decode cL_law 292 = .ok (.if_icmp .eq 830, 3) := by decide +kernel
theorem dL_law_295 : decode cL_law 295 = .ok (.iconst 0, 1) := by decide +kernel
theorem dL_law_296 : decode cL_law 296 = .ok (.ireturn, 1) := by decide +kernel
theorem dL_law_297 : decode cL_law 297 = .ok (.aload_n 1, 1) := by decide +kernel
theorem dL_law_298 : decode cL_law 298 = .ok (.aload_n 0, 1) := by decide +kernel
theorem dL_law_299 : decode cL_law 299 = .ok (.iload_n 3, 1) := by decide +kernel
theorem dL_law_300 : decode cL_law 300 = .ok (.iconst 1, 1) := by decide +kernel
theorem dL_law_301 : decode cL_law 301 = .ok (.iadd, 1) := by decide +kernel
theorem dL_law_302 : decode cL_law 302 = .ok (.iaload, 1) := by decide +kernel
theorem dL_law_303 : decode cL_law 303 = .ok (.aload_n 0, 1) := by decide +kernel
theorem dL_law_304 : decode cL_law 304 = .ok (.iload_n 3, 1) := by decide +kernel
theorem dL_law_305 : decode cL_law 305 = .ok (.iconst 2, 1) := by decide +kernel
theorem dL_law_306 : decode cL_law 306 = .ok (.iadd, 1) := by decide +kernel
theorem dL_law_307 : decode cL_law 307 = .ok (.iaload, 1) := by decide +kernel
theorem dL_law_308 : decode cL_law 308 = .ok (.invokevirtual 36, 3) := by decide +kernel
theorem dL_law_311 : decode cL_law 311 = .ok (.aload_n 2, 1) := by decide +kernel
theorem dL_law_312 : decode cL_law 312 = .ok (.aload_n 0, 1) := by decide +kernel
theorem dL_law_313 : decode cL_law 313 = .ok (.iload_n 3, 1) := by decide +kernel
theorem dL_law_314 : decode cL_law 314 = .ok (.iconst 1, 1) := by decide +kernel
theorem dL_law_315 : decode cL_law 315 = .ok (.iadd, 1) := by decide +kernel
theorem dL_law_316 : decode cL_law 316 = .ok (.iaload, 1) := by decide +kernel
theorem dL_law_317 : decode cL_law 317 = .ok (.aload_n 0, 1) := by decide +kernel
theorem dL_law_318 : decode cL_law 318 = .ok (.iload_n 3, 1) := by decide +kernel
theorem dL_law_319 : decode cL_law 319 = .ok (.iconst 2, 1) := by decide +kernel
theorem dL_law_320 : decode cL_law 320 = .ok (.iadd, 1) := by decide +kernel
theorem dL_law_321 : decode cL_law 321 = .ok (.iaload, 1) := by decide +kernel
theorem dL_law_322 : decode cL_law 322 = .ok (.invokevirtual 39, 3) := by decide +kernel
theorem dL_law_325 : decode cL_law 325 = .ok (.if_icmp .eq 797, 3) := by decide +kernel
theorem dL_law_328 : decode cL_law 328 = .ok (.iconst 0, 1) := by decide +kernel
theorem dL_law_329 : decode cL_law 329 = .ok (.ireturn, 1) := by decide +kernel
theorem dL_law_330 : decode cL_law 330 = .ok (.aload_n 1, 1) := by decide +kernel
theorem dL_law_331 : decode cL_law 331 = .ok (.aload_n 0, 1) := by decide +kernel
theorem dL_law_332 : decode cL_law 332 = .ok (.iload_n 3, 1) := by decide +kernel
theorem dL_law_333 : decode cL_law 333 = .ok (.iconst 1, 1) := by decide +kernel
theorem dL_law_334 : decode cL_law 334 = .ok (.iadd, 1) := by decide +kernel
theorem dL_law_335 : decode cL_law 335 = .ok (.iaload, 1) := by decide +kernel
theorem dL_law_336 : decode cL_law 336 = .ok (.aload_n 0, 1) := by decide +kernel
theorem dL_law_337 : decode cL_law 337 = .ok (.iload_n 3, 1) := by decide +kernel
theorem dL_law_338 : decode cL_law 338 = .ok (.iconst 2, 1) := by decide +kernel
theorem dL_law_339 : decode cL_law 339 = .ok (.iadd, 1) := by decide +kernel
theorem dL_law_340 : decode cL_law 340 = .ok (.iaload, 1) := by decide +kernel
theorem dL_law_341 : decode cL_law 341 = .ok (.invokevirtual 40, 3) := by decide +kernel
theorem dL_law_344 : decode cL_law 344 = .ok (.aload_n 2, 1) := by decide +kernel
theorem dL_law_345 : decode cL_law 345 = .ok (.aload_n 0, 1) := by decide +kernel
theorem dL_law_346 : decode cL_law 346 = .ok (.iload_n 3, 1) := by decide +kernel
theorem dL_law_347 : decode cL_law 347 = .ok (.iconst 1, 1) := by decide +kernel
theorem dL_law_348 : decode cL_law 348 = .ok (.iadd, 1) := by decide +kernel
theorem dL_law_349 : decode cL_law 349 = .ok (.iaload, 1) := by decide +kernel
theorem dL_law_350 : decode cL_law 350 = .ok (.aload_n 0, 1) := by decide +kernel
theorem dL_law_351 : decode cL_law 351 = .ok (.iload_n 3, 1) := by decide +kernel
theorem dL_law_352 : decode cL_law 352 = .ok (.iconst 2, 1) := by decide +kernel
theorem dL_law_353 : decode cL_law 353 = .ok (.iadd, 1) := by decide +kernel
theorem dL_law_354 : decode cL_law 354 = .ok (.iaload, 1) := by decide +kernel
theorem dL_law_355 : decode cL_law 355 = .ok (.invokevirtual 43, 3) := by decide +kernel
theorem dL_law_358 : decode cL_law 358 = .ok (.if_icmp .eq 764, 3) := by decide +kernel
theorem dL_law_361 : decode cL_law 361 = .ok (.iconst 0, 1) := by decide +kernel
theorem dL_law_362 : decode cL_law 362 = .ok (.ireturn, 1) := by decide +kernel
theorem dL_law_363 : decode cL_law 363 = .ok (.aload_n 1, 1) := by decide +kernel
theorem dL_law_364 : decode cL_law 364 = .ok (.aload_n 0, 1) := by decide +kernel
theorem dL_law_365 : decode cL_law 365 = .ok (.iload_n 3, 1) := by decide +kernel
theorem dL_law_366 : decode cL_law 366 = .ok (.iconst 1, 1) := by decide +kernel
theorem dL_law_367 : decode cL_law 367 = .ok (.iadd, 1) := by decide +kernel
theorem dL_law_368 : decode cL_law 368 = .ok (.iaload, 1) := by decide +kernel
theorem dL_law_369 : decode cL_law 369 = .ok (.invokevirtual 44, 3) := by decide +kernel
theorem dL_law_372 : decode cL_law 372 = .ok (.aload_n 2, 1) := by decide +kernel
theorem dL_law_373 : decode cL_law 373 = .ok (.aload_n 0, 1) := by decide +kernel
theorem dL_law_374 : decode cL_law 374 = .ok (.iload_n 3, 1) := by decide +kernel
theorem dL_law_375 : decode cL_law 375 = .ok (.iconst 1, 1) := by decide +kernel
theorem dL_law_376 : decode cL_law 376 = .ok (.iadd, 1) := by decide +kernel
theorem dL_law_377 : decode cL_law 377 = .ok (.iaload, 1) := by decide +kernel
theorem dL_law_378 : decode cL_law 378 = .ok (.invokevirtual 47, 3) := by decide +kernel
theorem dL_law_381 : decode cL_law 381 = .ok (.if_icmp .eq 741, 3) := by decide +kernel
theorem dL_law_384 : decode cL_law 384 = .ok (.iconst 0, 1) := by decide +kernel
theorem dL_law_385 : decode cL_law 385 = .ok (.ireturn, 1) := by decide +kernel
theorem dL_law_386 : decode cL_law 386 = .ok (.aload_n 1, 1) := by decide +kernel
theorem dL_law_387 : decode cL_law 387 = .ok (.invokevirtual 48, 3) := by decide +kernel
theorem dL_law_390 : decode cL_law 390 = .ok (.aload_n 2, 1) := by decide +kernel
theorem dL_law_391 : decode cL_law 391 = .ok (.invokevirtual 51, 3) := by decide +kernel
theorem dL_law_394 : decode cL_law 394 = .ok (.if_icmp .eq 728, 3) := by decide +kernel
theorem dL_law_397 : decode cL_law 397 = .ok (.iconst 0, 1) := by decide +kernel
theorem dL_law_398 : decode cL_law 398 = .ok (.ireturn, 1) := by decide +kernel
theorem dL_law_399 : decode cL_law 399 = .ok (.aload_n 1, 1) := by decide +kernel
theorem dL_law_400 : decode cL_law 400 = .ok (.aload_n 0, 1) := by decide +kernel
theorem dL_law_401 : decode cL_law 401 = .ok (.iload_n 3, 1) := by decide +kernel
theorem dL_law_402 : decode cL_law 402 = .ok (.iconst 1, 1) := by decide +kernel
theorem dL_law_403 : decode cL_law 403 = .ok (.iadd, 1) := by decide +kernel
theorem dL_law_404 : decode cL_law 404 = .ok (.iaload, 1) := by decide +kernel
theorem dL_law_405 : decode cL_law 405 = .ok (.invokevirtual 52, 3) := by decide +kernel
theorem dL_law_408 : decode cL_law 408 = .ok (.aload_n 2, 1) := by decide +kernel
theorem dL_law_409 : decode cL_law 409 = .ok (.aload_n 0, 1) := by decide +kernel
theorem dL_law_410 : decode cL_law 410 = .ok (.iload_n 3, 1) := by decide +kernel
theorem dL_law_411 : decode cL_law 411 = .ok (.iconst 1, 1) := by decide +kernel
theorem dL_law_412 : decode cL_law 412 = .ok (.iadd, 1) := by decide +kernel
theorem dL_law_413 : decode cL_law 413 = .ok (.iaload, 1) := by decide +kernel
theorem dL_law_414 : decode cL_law 414 = .ok (.invokevirtual 55, 3) := by decide +kernel
theorem dL_law_417 : decode cL_law 417 = .ok (.if_icmp .eq 705, 3) := by decide +kernel
theorem dL_law_420 : decode cL_law 420 = .ok (.iconst 0, 1) := by decide +kernel
theorem dL_law_421 : decode cL_law 421 = .ok (.ireturn, 1) := by decide +kernel
theorem dL_law_422 : decode cL_law 422 = .ok (.aload_n 1, 1) := by decide +kernel
theorem dL_law_423 : decode cL_law 423 = .ok (.invokevirtual 56, 3) := by decide +kernel
theorem dL_law_426 : decode cL_law 426 = .ok (.aload_n 2, 1) := by decide +kernel
theorem dL_law_427 : decode cL_law 427 = .ok (.invokevirtual 59, 3) := by decide +kernel
theorem dL_law_430 : decode cL_law 430 = .ok (.if_icmp .eq 692, 3) := by decide +kernel
theorem dL_law_433 : decode cL_law 433 = .ok (.iconst 0, 1) := by decide +kernel
theorem dL_law_434 : decode cL_law 434 = .ok (.ireturn, 1) := by decide +kernel
theorem dL_law_435 : decode cL_law 435 = .ok (.aload_n 1, 1) := by decide +kernel
theorem dL_law_436 : decode cL_law 436 = .ok (.aload_n 0, 1) := by decide +kernel
theorem dL_law_437 : decode cL_law 437 = .ok (.iload_n 3, 1) := by decide +kernel
theorem dL_law_438 : decode cL_law 438 = .ok (.iconst 1, 1) := by decide +kernel
theorem dL_law_439 : decode cL_law 439 = .ok (.iadd, 1) := by decide +kernel
theorem dL_law_440 : decode cL_law 440 = .ok (.iaload, 1) := by decide +kernel
theorem dL_law_441 : decode cL_law 441 = .ok (.aload_n 0, 1) := by decide +kernel
theorem dL_law_442 : decode cL_law 442 = .ok (.iload_n 3, 1) := by decide +kernel
theorem dL_law_443 : decode cL_law 443 = .ok (.iconst 2, 1) := by decide +kernel
theorem dL_law_444 : decode cL_law 444 = .ok (.iadd, 1) := by decide +kernel
theorem dL_law_445 : decode cL_law 445 = .ok (.iaload, 1) := by decide +kernel
theorem dL_law_446 : decode cL_law 446 = .ok (.aload_n 0, 1) := by decide +kernel
theorem dL_law_447 : decode cL_law 447 = .ok (.iload_n 3, 1) := by decide +kernel
theorem dL_law_448 : decode cL_law 448 = .ok (.iconst 3, 1) := by decide +kernel
theorem dL_law_449 : decode cL_law 449 = .ok (.iadd, 1) := by decide +kernel
theorem dL_law_450 : decode cL_law 450 = .ok (.iaload, 1) := by decide +kernel
theorem dL_law_451 : decode cL_law 451 = .ok (.aload_n 0, 1) := by decide +kernel
theorem dL_law_452 : decode cL_law 452 = .ok (.iload_n 3, 1) := by decide +kernel
theorem dL_law_453 : decode cL_law 453 = .ok (.iconst 4, 1) := by decide +kernel
theorem dL_law_454 : decode cL_law 454 = .ok (.iadd, 1) := by decide +kernel
theorem dL_law_455 : decode cL_law 455 = .ok (.iaload, 1) := by decide +kernel
theorem dL_law_456 : decode cL_law 456 = .ok (.invokevirtual 60, 3) := by decide +kernel
theorem dL_law_459 : decode cL_law 459 = .ok (.aload_n 2, 1) := by decide +kernel
theorem dL_law_460 : decode cL_law 460 = .ok (.aload_n 0, 1) := by decide +kernel
theorem dL_law_461 : decode cL_law 461 = .ok (.iload_n 3, 1) := by decide +kernel
theorem dL_law_462 : decode cL_law 462 = .ok (.iconst 1, 1) := by decide +kernel
theorem dL_law_463 : decode cL_law 463 = .ok (.iadd, 1) := by decide +kernel
theorem dL_law_464 : decode cL_law 464 = .ok (.iaload, 1) := by decide +kernel
theorem dL_law_465 : decode cL_law 465 = .ok (.aload_n 0, 1) := by decide +kernel
theorem dL_law_466 : decode cL_law 466 = .ok (.iload_n 3, 1) := by decide +kernel
theorem dL_law_467 : decode cL_law 467 = .ok (.iconst 2, 1) := by decide +kernel
theorem dL_law_468 : decode cL_law 468 = .ok (.iadd, 1) := by decide +kernel
theorem dL_law_469 : decode cL_law 469 = .ok (.iaload, 1) := by decide +kernel
theorem dL_law_470 : decode cL_law 470 = .ok (.aload_n 0, 1) := by decide +kernel
theorem dL_law_471 : decode cL_law 471 = .ok (.iload_n 3, 1) := by decide +kernel
theorem dL_law_472 : decode cL_law 472 = .ok (.iconst 3, 1) := by decide +kernel
theorem dL_law_473 : decode cL_law 473 = .ok (.iadd, 1) := by decide +kernel
theorem dL_law_474 : decode cL_law 474 = .ok (.iaload, 1) := by decide +kernel
theorem dL_law_475 : decode cL_law 475 = .ok (.aload_n 0, 1) := by decide +kernel
theorem dL_law_476 : decode cL_law 476 = .ok (.iload_n 3, 1) := by decide +kernel
theorem dL_law_477 : decode cL_law 477 = .ok (.iconst 4, 1) := by decide +kernel
theorem dL_law_478 : decode cL_law 478 = .ok (.iadd, 1) := by decide +kernel
theorem dL_law_479 : decode cL_law 479 = .ok (.iaload, 1) := by decide +kernel
theorem dL_law_480 : decode cL_law 480 = .ok (.invokevirtual 64, 3) := by decide +kernel
theorem dL_law_483 : decode cL_law 483 = .ok (.if_icmp .eq 639, 3) := by decide +kernel
theorem dL_law_486 : decode cL_law 486 = .ok (.iconst 0, 1) := by decide +kernel
theorem dL_law_487 : decode cL_law 487 = .ok (.ireturn, 1) := by decide +kernel
theorem dL_law_488 : decode cL_law 488 = .ok (.aload_n 1, 1) := by decide +kernel
theorem dL_law_489 : decode cL_law 489 = .ok (.aload_n 0, 1) := by decide +kernel
theorem dL_law_490 : decode cL_law 490 = .ok (.iload_n 3, 1) := by decide +kernel
theorem dL_law_491 : decode cL_law 491 = .ok (.iconst 1, 1) := by decide +kernel
theorem dL_law_492 : decode cL_law 492 = .ok (.iadd, 1) := by decide +kernel
theorem dL_law_493 : decode cL_law 493 = .ok (.iaload, 1) := by decide +kernel
theorem dL_law_494 : decode cL_law 494 = .ok (.aload_n 0, 1) := by decide +kernel
theorem dL_law_495 : decode cL_law 495 = .ok (.iload_n 3, 1) := by decide +kernel
theorem dL_law_496 : decode cL_law 496 = .ok (.iconst 2, 1) := by decide +kernel
theorem dL_law_497 : decode cL_law 497 = .ok (.iadd, 1) := by decide +kernel
theorem dL_law_498 : decode cL_law 498 = .ok (.iaload, 1) := by decide +kernel
theorem dL_law_499 : decode cL_law 499 = .ok (.aload_n 0, 1) := by decide +kernel
theorem dL_law_500 : decode cL_law 500 = .ok (.iload_n 3, 1) := by decide +kernel
theorem dL_law_501 : decode cL_law 501 = .ok (.iconst 3, 1) := by decide +kernel
theorem dL_law_502 : decode cL_law 502 = .ok (.iadd, 1) := by decide +kernel
theorem dL_law_503 : decode cL_law 503 = .ok (.iaload, 1) := by decide +kernel
theorem dL_law_504 : decode cL_law 504 = .ok (.invokevirtual 65, 3) := by decide +kernel
theorem dL_law_507 : decode cL_law 507 = .ok (.aload_n 2, 1) := by decide +kernel
theorem dL_law_508 : decode cL_law 508 = .ok (.aload_n 0, 1) := by decide +kernel
theorem dL_law_509 : decode cL_law 509 = .ok (.iload_n 3, 1) := by decide +kernel
theorem dL_law_510 : decode cL_law 510 = .ok (.iconst 1, 1) := by decide +kernel
theorem dL_law_511 : decode cL_law 511 = .ok (.iadd, 1) := by decide +kernel
theorem dL_law_512 : decode cL_law 512 = .ok (.iaload, 1) := by decide +kernel
theorem dL_law_513 : decode cL_law 513 = .ok (.aload_n 0, 1) := by decide +kernel
theorem dL_law_514 : decode cL_law 514 = .ok (.iload_n 3, 1) := by decide +kernel
theorem dL_law_515 : decode cL_law 515 = .ok (.iconst 2, 1) := by decide +kernel
theorem dL_law_516 : decode cL_law 516 = .ok (.iadd, 1) := by decide +kernel
theorem dL_law_517 : decode cL_law 517 = .ok (.iaload, 1) := by decide +kernel
theorem dL_law_518 : decode cL_law 518 = .ok (.aload_n 0, 1) := by decide +kernel
theorem dL_law_519 : decode cL_law 519 = .ok (.iload_n 3, 1) := by decide +kernel
theorem dL_law_520 : decode cL_law 520 = .ok (.iconst 3, 1) := by decide +kernel
theorem dL_law_521 : decode cL_law 521 = .ok (.iadd, 1) := by decide +kernel
theorem dL_law_522 : decode cL_law 522 = .ok (.iaload, 1) := by decide +kernel
theorem dL_law_523 : decode cL_law 523 = .ok (.invokevirtual 69, 3) := by decide +kernel
theorem dL_law_526 : decode cL_law 526 = .ok (.if_icmp .eq 596, 3) := by decide +kernel
theorem dL_law_529 : decode cL_law 529 = .ok (.iconst 0, 1) := by decide +kernel
theorem dL_law_530 : decode cL_law 530 = .ok (.ireturn, 1) := by decide +kernel
theorem dL_law_531 : decode cL_law 531 = .ok (.aload_n 1, 1) := by decide +kernel
theorem dL_law_532 : decode cL_law 532 = .ok (.aload_n 0, 1) := by decide +kernel
theorem dL_law_533 : decode cL_law 533 = .ok (.iload_n 3, 1) := by decide +kernel
theorem dL_law_534 : decode cL_law 534 = .ok (.iconst 1, 1) := by decide +kernel
theorem dL_law_535 : decode cL_law 535 = .ok (.iadd, 1) := by decide +kernel
theorem dL_law_536 : decode cL_law 536 = .ok (.iaload, 1) := by decide +kernel
theorem dL_law_537 : decode cL_law 537 = .ok (.aload_n 0, 1) := by decide +kernel
theorem dL_law_538 : decode cL_law 538 = .ok (.iload_n 3, 1) := by decide +kernel
theorem dL_law_539 : decode cL_law 539 = .ok (.iconst 2, 1) := by decide +kernel
theorem dL_law_540 : decode cL_law 540 = .ok (.iadd, 1) := by decide +kernel
theorem dL_law_541 : decode cL_law 541 = .ok (.iaload, 1) := by decide +kernel
theorem dL_law_542 : decode cL_law 542 = .ok (.invokevirtual 70, 3) := by decide +kernel
theorem dL_law_545 : decode cL_law 545 = .ok (.aload_n 2, 1) := by decide +kernel
theorem dL_law_546 : decode cL_law 546 = .ok (.aload_n 0, 1) := by decide +kernel
theorem dL_law_547 : decode cL_law 547 = .ok (.iload_n 3, 1) := by decide +kernel
theorem dL_law_548 : decode cL_law 548 = .ok (.iconst 1, 1) := by decide +kernel
theorem dL_law_549 : decode cL_law 549 = .ok (.iadd, 1) := by decide +kernel
theorem dL_law_550 : decode cL_law 550 = .ok (.iaload, 1) := by decide +kernel
theorem dL_law_551 : decode cL_law 551 = .ok (.aload_n 0, 1) := by decide +kernel
theorem dL_law_552 : decode cL_law 552 = .ok (.iload_n 3, 1) := by decide +kernel
theorem dL_law_553 : decode cL_law 553 = .ok (.iconst 2, 1) := by decide +kernel
theorem dL_law_554 : decode cL_law 554 = .ok (.iadd, 1) := by decide +kernel
theorem dL_law_555 : decode cL_law 555 = .ok (.iaload, 1) := by decide +kernel
theorem dL_law_556 : decode cL_law 556 = .ok (.invokevirtual 73, 3) := by decide +kernel
theorem dL_law_559 : decode cL_law 559 = .ok (.if_icmp .eq 563, 3) := by decide +kernel
theorem dL_law_562 : decode cL_law 562 = .ok (.iconst 0, 1) := by decide +kernel
theorem dL_law_563 : decode cL_law 563 = .ok (.ireturn, 1) := by decide +kernel
theorem dL_law_564 : decode cL_law 564 = .ok (.aload_n 1, 1) := by decide +kernel
theorem dL_law_565 : decode cL_law 565 = .ok (.invokevirtual 74, 3) := by decide +kernel
theorem dL_law_568 : decode cL_law 568 = .ok (.aload_n 2, 1) := by decide +kernel
theorem dL_law_569 : decode cL_law 569 = .ok (.invokevirtual 77, 3) := by decide +kernel
theorem dL_law_572 : decode cL_law 572 = .ok (.if_icmp .eq 550, 3) := by decide +kernel
theorem dL_law_575 : decode cL_law 575 = .ok (.iconst 0, 1) := by decide +kernel
theorem dL_law_576 : decode cL_law 576 = .ok (.ireturn, 1) := by decide +kernel
theorem dL_law_577 : decode cL_law 577 = .ok (.aload_n 1, 1) := by decide +kernel
theorem dL_law_578 : decode cL_law 578 = .ok (.invokevirtual 78, 3) := by decide +kernel
theorem dL_law_581 : decode cL_law 581 = .ok (.aload_n 2, 1) := by decide +kernel
theorem dL_law_582 : decode cL_law 582 = .ok (.invokevirtual 81, 3) := by decide +kernel
theorem dL_law_585 : decode cL_law 585 = .ok (.if_icmp .eq 537, 3) := by decide +kernel
theorem dL_law_588 : decode cL_law 588 = .ok (.iconst 0, 1) := by decide +kernel
theorem dL_law_589 : decode cL_law 589 = .ok (.ireturn, 1) := by decide +kernel
theorem dL_law_590 : decode cL_law 590 = .ok (.aload_n 1, 1) := by decide +kernel
theorem dL_law_591 : decode cL_law 591 = .ok (.aload_n 0, 1) := by decide +kernel
theorem dL_law_592 : decode cL_law 592 = .ok (.iload_n 3, 1) := by decide +kernel
theorem dL_law_593 : decode cL_law 593 = .ok (.iconst 1, 1) := by decide +kernel
theorem dL_law_594 : decode cL_law 594 = .ok (.iadd, 1) := by decide +kernel
theorem dL_law_595 : decode cL_law 595 = .ok (.iaload, 1) := by decide +kernel
theorem dL_law_596 : decode cL_law 596 = .ok (.aload_n 0, 1) := by decide +kernel
theorem dL_law_597 : decode cL_law 597 = .ok (.iload_n 3, 1) := by decide +kernel
theorem dL_law_598 : decode cL_law 598 = .ok (.iconst 2, 1) := by decide +kernel
theorem dL_law_599 : decode cL_law 599 = .ok (.iadd, 1) := by decide +kernel
theorem dL_law_600 : decode cL_law 600 = .ok (.iaload, 1) := by decide +kernel
theorem dL_law_601 : decode cL_law 601 = .ok (.invokevirtual 82, 3) := by decide +kernel
theorem dL_law_604 : decode cL_law 604 = .ok (.aload_n 2, 1) := by decide +kernel
theorem dL_law_605 : decode cL_law 605 = .ok (.aload_n 0, 1) := by decide +kernel
theorem dL_law_606 : decode cL_law 606 = .ok (.iload_n 3, 1) := by decide +kernel
theorem dL_law_607 : decode cL_law 607 = .ok (.iconst 1, 1) := by decide +kernel
theorem dL_law_608 : decode cL_law 608 = .ok (.iadd, 1) := by decide +kernel
theorem dL_law_609 : decode cL_law 609 = .ok (.iaload, 1) := by decide +kernel
theorem dL_law_610 : decode cL_law 610 = .ok (.aload_n 0, 1) := by decide +kernel
theorem dL_law_611 : decode cL_law 611 = .ok (.iload_n 3, 1) := by decide +kernel
theorem dL_law_612 : decode cL_law 612 = .ok (.iconst 2, 1) := by decide +kernel
theorem dL_law_613 : decode cL_law 613 = .ok (.iadd, 1) := by decide +kernel
theorem dL_law_614 : decode cL_law 614 = .ok (.iaload, 1) := by decide +kernel
theorem dL_law_615 : decode cL_law 615 = .ok (.invokevirtual 85, 3) := by decide +kernel
theorem dL_law_618 : decode cL_law 618 = .ok (.if_icmp .eq 504, 3) := by decide +kernel
theorem dL_law_621 : decode cL_law 621 = .ok (.iconst 0, 1) := by decide +kernel
theorem dL_law_622 : decode cL_law 622 = .ok (.ireturn, 1) := by decide +kernel
theorem dL_law_623 : decode cL_law 623 = .ok (.aload_n 1, 1) := by decide +kernel
theorem dL_law_624 : decode cL_law 624 = .ok (.aload_n 0, 1) := by decide +kernel
theorem dL_law_625 : decode cL_law 625 = .ok (.iload_n 3, 1) := by decide +kernel
theorem dL_law_626 : decode cL_law 626 = .ok (.iconst 1, 1) := by decide +kernel
theorem dL_law_627 : decode cL_law 627 = .ok (.iadd, 1) := by decide +kernel
theorem dL_law_628 : decode cL_law 628 = .ok (.iaload, 1) := by decide +kernel
theorem dL_law_629 : decode cL_law 629 = .ok (.aload_n 0, 1) := by decide +kernel
theorem dL_law_630 : decode cL_law 630 = .ok (.iload_n 3, 1) := by decide +kernel
theorem dL_law_631 : decode cL_law 631 = .ok (.iconst 2, 1) := by decide +kernel
theorem dL_law_632 : decode cL_law 632 = .ok (.iadd, 1) := by decide +kernel
theorem dL_law_633 : decode cL_law 633 = .ok (.iaload, 1) := by decide +kernel
theorem dL_law_634 : decode cL_law 634 = .ok (.invokevirtual 86, 3) := by decide +kernel
theorem dL_law_637 : decode cL_law 637 = .ok (.aload_n 2, 1) := by decide +kernel
theorem dL_law_638 : decode cL_law 638 = .ok (.aload_n 0, 1) := by decide +kernel
theorem dL_law_639 : decode cL_law 639 = .ok (.iload_n 3, 1) := by decide +kernel
theorem dL_law_640 : decode cL_law 640 = .ok (.iconst 1, 1) := by decide +kernel
theorem dL_law_641 : decode cL_law 641 = .ok (.iadd, 1) := by decide +kernel
theorem dL_law_642 : decode cL_law 642 = .ok (.iaload, 1) := by decide +kernel
theorem dL_law_643 : decode cL_law 643 = .ok (.aload_n 0, 1) := by decide +kernel
theorem dL_law_644 : decode cL_law 644 = .ok (.iload_n 3, 1) := by decide +kernel
theorem dL_law_645 : decode cL_law 645 = .ok (.iconst 2, 1) := by decide +kernel
theorem dL_law_646 : decode cL_law 646 = .ok (.iadd, 1) := by decide +kernel
theorem dL_law_647 : decode cL_law 647 = .ok (.iaload, 1) := by decide +kernel
theorem dL_law_648 : decode cL_law 648 = .ok (.invokevirtual 89, 3) := by decide +kernel
theorem dL_law_651 : decode cL_law 651 = .ok (.if_icmp .eq 471, 3) := by decide +kernel
theorem dL_law_654 : decode cL_law 654 = .ok (.iconst 0, 1) := by decide +kernel
theorem dL_law_655 : decode cL_law 655 = .ok (.ireturn, 1) := by decide +kernel
theorem dL_law_656 : decode cL_law 656 = .ok (.aload_n 1, 1) := by decide +kernel
theorem dL_law_657 : decode cL_law 657 = .ok (.aload_n 0, 1) := by decide +kernel
theorem dL_law_658 : decode cL_law 658 = .ok (.iload_n 3, 1) := by decide +kernel
theorem dL_law_659 : decode cL_law 659 = .ok (.iconst 1, 1) := by decide +kernel
theorem dL_law_660 : decode cL_law 660 = .ok (.iadd, 1) := by decide +kernel
theorem dL_law_661 : decode cL_law 661 = .ok (.iaload, 1) := by decide +kernel
theorem dL_law_662 : decode cL_law 662 = .ok (.invokevirtual 90, 3) := by decide +kernel
theorem dL_law_665 : decode cL_law 665 = .ok (.aload_n 2, 1) := by decide +kernel
theorem dL_law_666 : decode cL_law 666 = .ok (.aload_n 0, 1) := by decide +kernel
theorem dL_law_667 : decode cL_law 667 = .ok (.iload_n 3, 1) := by decide +kernel
theorem dL_law_668 : decode cL_law 668 = .ok (.iconst 1, 1) := by decide +kernel
theorem dL_law_669 : decode cL_law 669 = .ok (.iadd, 1) := by decide +kernel
theorem dL_law_670 : decode cL_law 670 = .ok (.iaload, 1) := by decide +kernel
theorem dL_law_671 : decode cL_law 671 = .ok (.invokevirtual 93, 3) := by decide +kernel
theorem dL_law_674 : decode cL_law 674 = .ok (.if_icmp .eq 448, 3) := by decide +kernel
theorem dL_law_677 : decode cL_law 677 = .ok (.iconst 0, 1) := by decide +kernel
theorem dL_law_678 : decode cL_law 678 = .ok (.ireturn, 1) := by decide +kernel
theorem dL_law_679 : decode cL_law 679 = .ok (.aload_n 1, 1) := by decide +kernel
theorem dL_law_680 : decode cL_law 680 = .ok (.aload_n 0, 1) := by decide +kernel
theorem dL_law_681 : decode cL_law 681 = .ok (.iload_n 3, 1) := by decide +kernel
theorem dL_law_682 : decode cL_law 682 = .ok (.iconst 1, 1) := by decide +kernel
theorem dL_law_683 : decode cL_law 683 = .ok (.iadd, 1) := by decide +kernel
theorem dL_law_684 : decode cL_law 684 = .ok (.iaload, 1) := by decide +kernel
theorem dL_law_685 : decode cL_law 685 = .ok (.aload_n 0, 1) := by decide +kernel
theorem dL_law_686 : decode cL_law 686 = .ok (.iload_n 3, 1) := by decide +kernel
theorem dL_law_687 : decode cL_law 687 = .ok (.iconst 2, 1) := by decide +kernel
theorem dL_law_688 : decode cL_law 688 = .ok (.iadd, 1) := by decide +kernel
theorem dL_law_689 : decode cL_law 689 = .ok (.iaload, 1) := by decide +kernel
theorem dL_law_690 : decode cL_law 690 = .ok (.invokevirtual 94, 3) := by decide +kernel
theorem dL_law_693 : decode cL_law 693 = .ok (.aload_n 2, 1) := by decide +kernel
theorem dL_law_694 : decode cL_law 694 = .ok (.aload_n 0, 1) := by decide +kernel
theorem dL_law_695 : decode cL_law 695 = .ok (.iload_n 3, 1) := by decide +kernel
theorem dL_law_696 : decode cL_law 696 = .ok (.iconst 1, 1) := by decide +kernel
theorem dL_law_697 : decode cL_law 697 = .ok (.iadd, 1) := by decide +kernel
theorem dL_law_698 : decode cL_law 698 = .ok (.iaload, 1) := by decide +kernel
theorem dL_law_699 : decode cL_law 699 = .ok (.aload_n 0, 1) := by decide +kernel
theorem dL_law_700 : decode cL_law 700 = .ok (.iload_n 3, 1) := by decide +kernel
theorem dL_law_701 : decode cL_law 701 = .ok (.iconst 2, 1) := by decide +kernel
theorem dL_law_702 : decode cL_law 702 = .ok (.iadd, 1) := by decide +kernel
theorem dL_law_703 : decode cL_law 703 = .ok (.iaload, 1) := by decide +kernel
theorem dL_law_704 : decode cL_law 704 = .ok (.invokevirtual 97, 3) := by decide +kernel
theorem dL_law_707 : decode cL_law 707 = .ok (.if_icmp .eq 415, 3) := by decide +kernel
theorem dL_law_710 : decode cL_law 710 = .ok (.iconst 0, 1) := by decide +kernel
theorem dL_law_711 : decode cL_law 711 = .ok (.ireturn, 1) := by decide +kernel
theorem dL_law_712 : decode cL_law 712 = .ok (.aload_n 1, 1) := by decide +kernel
theorem dL_law_713 : decode cL_law 713 = .ok (.aload_n 0, 1) := by decide +kernel
theorem dL_law_714 : decode cL_law 714 = .ok (.iload_n 3, 1) := by decide +kernel
theorem dL_law_715 : decode cL_law 715 = .ok (.iconst 1, 1) := by decide +kernel
theorem dL_law_716 : decode cL_law 716 = .ok (.iadd, 1) := by decide +kernel
theorem dL_law_717 : decode cL_law 717 = .ok (.iaload, 1) := by decide +kernel
theorem dL_law_718 : decode cL_law 718 = .ok (.invokevirtual 98, 3) := by decide +kernel
theorem dL_law_721 : decode cL_law 721 = .ok (.aload_n 2, 1) := by decide +kernel
theorem dL_law_722 : decode cL_law 722 = .ok (.aload_n 0, 1) := by decide +kernel
theorem dL_law_723 : decode cL_law 723 = .ok (.iload_n 3, 1) := by decide +kernel
theorem dL_law_724 : decode cL_law 724 = .ok (.iconst 1, 1) := by decide +kernel
theorem dL_law_725 : decode cL_law 725 = .ok (.iadd, 1) := by decide +kernel
theorem dL_law_726 : decode cL_law 726 = .ok (.iaload, 1) := by decide +kernel
theorem dL_law_727 : decode cL_law 727 = .ok (.invokevirtual 102, 3) := by decide +kernel
theorem dL_law_730 : decode cL_law 730 = .ok (.lcmp, 1) := by decide +kernel
theorem dL_law_731 : decode cL_law 731 = .ok (.ifCond .eq 391, 3) := by decide +kernel
theorem dL_law_734 : decode cL_law 734 = .ok (.iconst 0, 1) := by decide +kernel
theorem dL_law_735 : decode cL_law 735 = .ok (.ireturn, 1) := by decide +kernel
theorem dL_law_736 : decode cL_law 736 = .ok (.aload_n 1, 1) := by decide +kernel
theorem dL_law_737 : decode cL_law 737 = .ok (.aload_n 0, 1) := by decide +kernel
theorem dL_law_738 : decode cL_law 738 = .ok (.iload_n 3, 1) := by decide +kernel
theorem dL_law_739 : decode cL_law 739 = .ok (.iconst 1, 1) := by decide +kernel
theorem dL_law_740 : decode cL_law 740 = .ok (.iadd, 1) := by decide +kernel
theorem dL_law_741 : decode cL_law 741 = .ok (.iaload, 1) := by decide +kernel
theorem dL_law_742 : decode cL_law 742 = .ok (.aload_n 0, 1) := by decide +kernel
theorem dL_law_743 : decode cL_law 743 = .ok (.iload_n 3, 1) := by decide +kernel
theorem dL_law_744 : decode cL_law 744 = .ok (.iconst 2, 1) := by decide +kernel
theorem dL_law_745 : decode cL_law 745 = .ok (.iadd, 1) := by decide +kernel
theorem dL_law_746 : decode cL_law 746 = .ok (.iaload, 1) := by decide +kernel
theorem dL_law_747 : decode cL_law 747 = .ok (.aload_n 0, 1) := by decide +kernel
theorem dL_law_748 : decode cL_law 748 = .ok (.iload_n 3, 1) := by decide +kernel
theorem dL_law_749 : decode cL_law 749 = .ok (.iconst 3, 1) := by decide +kernel
theorem dL_law_750 : decode cL_law 750 = .ok (.iadd, 1) := by decide +kernel
theorem dL_law_751 : decode cL_law 751 = .ok (.iaload, 1) := by decide +kernel
theorem dL_law_752 : decode cL_law 752 = .ok (.invokevirtual 103, 3) := by decide +kernel
theorem dL_law_755 : decode cL_law 755 = .ok (.aload_n 2, 1) := by decide +kernel
theorem dL_law_756 : decode cL_law 756 = .ok (.aload_n 0, 1) := by decide +kernel
theorem dL_law_757 : decode cL_law 757 = .ok (.iload_n 3, 1) := by decide +kernel
theorem dL_law_758 : decode cL_law 758 = .ok (.iconst 1, 1) := by decide +kernel
theorem dL_law_759 : decode cL_law 759 = .ok (.iadd, 1) := by decide +kernel
theorem dL_law_760 : decode cL_law 760 = .ok (.iaload, 1) := by decide +kernel
theorem dL_law_761 : decode cL_law 761 = .ok (.aload_n 0, 1) := by decide +kernel
theorem dL_law_762 : decode cL_law 762 = .ok (.iload_n 3, 1) := by decide +kernel
theorem dL_law_763 : decode cL_law 763 = .ok (.iconst 2, 1) := by decide +kernel
theorem dL_law_764 : decode cL_law 764 = .ok (.iadd, 1) := by decide +kernel
theorem dL_law_765 : decode cL_law 765 = .ok (.iaload, 1) := by decide +kernel
theorem dL_law_766 : decode cL_law 766 = .ok (.aload_n 0, 1) := by decide +kernel
theorem dL_law_767 : decode cL_law 767 = .ok (.iload_n 3, 1) := by decide +kernel
theorem dL_law_768 : decode cL_law 768 = .ok (.iconst 3, 1) := by decide +kernel
theorem dL_law_769 : decode cL_law 769 = .ok (.iadd, 1) := by decide +kernel
theorem dL_law_770 : decode cL_law 770 = .ok (.iaload, 1) := by decide +kernel
theorem dL_law_771 : decode cL_law 771 = .ok (.invokevirtual 106, 3) := by decide +kernel
theorem dL_law_774 : decode cL_law 774 = .ok (.if_icmp .eq 348, 3) := by decide +kernel
theorem dL_law_777 : decode cL_law 777 = .ok (.iconst 0, 1) := by decide +kernel
theorem dL_law_778 : decode cL_law 778 = .ok (.ireturn, 1) := by decide +kernel
theorem dL_law_779 : decode cL_law 779 = .ok (.aload_n 1, 1) := by decide +kernel
theorem dL_law_780 : decode cL_law 780 = .ok (.aload_n 0, 1) := by decide +kernel
theorem dL_law_781 : decode cL_law 781 = .ok (.iload_n 3, 1) := by decide +kernel
theorem dL_law_782 : decode cL_law 782 = .ok (.iconst 1, 1) := by decide +kernel
theorem dL_law_783 : decode cL_law 783 = .ok (.iadd, 1) := by decide +kernel
theorem dL_law_784 : decode cL_law 784 = .ok (.iaload, 1) := by decide +kernel
theorem dL_law_785 : decode cL_law 785 = .ok (.aload_n 0, 1) := by decide +kernel
theorem dL_law_786 : decode cL_law 786 = .ok (.iload_n 3, 1) := by decide +kernel
theorem dL_law_787 : decode cL_law 787 = .ok (.iconst 2, 1) := by decide +kernel
theorem dL_law_788 : decode cL_law 788 = .ok (.iadd, 1) := by decide +kernel
theorem dL_law_789 : decode cL_law 789 = .ok (.iaload, 1) := by decide +kernel
theorem dL_law_790 : decode cL_law 790 = .ok (.invokevirtual 107, 3) := by decide +kernel
theorem dL_law_793 : decode cL_law 793 = .ok (.aload_n 2, 1) := by decide +kernel
theorem dL_law_794 : decode cL_law 794 = .ok (.aload_n 0, 1) := by decide +kernel
theorem dL_law_795 : decode cL_law 795 = .ok (.iload_n 3, 1) := by decide +kernel
theorem dL_law_796 : decode cL_law 796 = .ok (.iconst 1, 1) := by decide +kernel
theorem dL_law_797 : decode cL_law 797 = .ok (.iadd, 1) := by decide +kernel
theorem dL_law_798 : decode cL_law 798 = .ok (.iaload, 1) := by decide +kernel
theorem dL_law_799 : decode cL_law 799 = .ok (.aload_n 0, 1) := by decide +kernel
theorem dL_law_800 : decode cL_law 800 = .ok (.iload_n 3, 1) := by decide +kernel
theorem dL_law_801 : decode cL_law 801 = .ok (.iconst 2, 1) := by decide +kernel
theorem dL_law_802 : decode cL_law 802 = .ok (.iadd, 1) := by decide +kernel
theorem dL_law_803 : decode cL_law 803 = .ok (.iaload, 1) := by decide +kernel
theorem dL_law_804 : decode cL_law 804 = .ok (.invokevirtual 110, 3) := by decide +kernel
theorem dL_law_807 : decode cL_law 807 = .ok (.if_icmp .eq 315, 3) := by decide +kernel
theorem dL_law_810 : decode cL_law 810 = .ok (.iconst 0, 1) := by decide +kernel
theorem dL_law_811 : decode cL_law 811 = .ok (.ireturn, 1) := by decide +kernel
theorem dL_law_812 : decode cL_law 812 = .ok (.aload_n 1, 1) := by decide +kernel
theorem dL_law_813 : decode cL_law 813 = .ok (.invokevirtual 111, 3) := by decide +kernel
theorem dL_law_816 : decode cL_law 816 = .ok (.aload_n 2, 1) := by decide +kernel
theorem dL_law_817 : decode cL_law 817 = .ok (.invokevirtual 114, 3) := by decide +kernel
theorem dL_law_820 : decode cL_law 820 = .ok (.if_icmp .eq 302, 3) := by decide +kernel
theorem dL_law_823 : decode cL_law 823 = .ok (.iconst 0, 1) := by decide +kernel
theorem dL_law_824 : decode cL_law 824 = .ok (.ireturn, 1) := by decide +kernel
theorem dL_law_825 : decode cL_law 825 = .ok (.aload_n 1, 1) := by decide +kernel
theorem dL_law_826 : decode cL_law 826 = .ok (.aload_n 0, 1) := by decide +kernel
theorem dL_law_827 : decode cL_law 827 = .ok (.iload_n 3, 1) := by decide +kernel
theorem dL_law_828 : decode cL_law 828 = .ok (.iconst 1, 1) := by decide +kernel
theorem dL_law_829 : decode cL_law 829 = .ok (.iadd, 1) := by decide +kernel
theorem dL_law_830 : decode cL_law 830 = .ok (.iaload, 1) := by decide +kernel
theorem dL_law_831 : decode cL_law 831 = .ok (.aload_n 0, 1) := by decide +kernel
theorem dL_law_832 : decode cL_law 832 = .ok (.iload_n 3, 1) := by decide +kernel
theorem dL_law_833 : decode cL_law 833 = .ok (.iconst 2, 1) := by decide +kernel
theorem dL_law_834 : decode cL_law 834 = .ok (.iadd, 1) := by decide +kernel
theorem dL_law_835 : decode cL_law 835 = .ok (.iaload, 1) := by decide +kernel
theorem dL_law_836 : decode cL_law 836 = .ok (.invokevirtual 115, 3) := by decide +kernel
theorem dL_law_839 : decode cL_law 839 = .ok (.aload_n 2, 1) := by decide +kernel
theorem dL_law_840 : decode cL_law 840 = .ok (.aload_n 0, 1) := by decide +kernel
theorem dL_law_841 : decode cL_law 841 = .ok (.iload_n 3, 1) := by decide +kernel
theorem dL_law_842 : decode cL_law 842 = .ok (.iconst 1, 1) := by decide +kernel
theorem dL_law_843 : decode cL_law 843 = .ok (.iadd, 1) := by decide +kernel
theorem dL_law_844 : decode cL_law 844 = .ok (.iaload, 1) := by decide +kernel
theorem dL_law_845 : decode cL_law 845 = .ok (.aload_n 0, 1) := by decide +kernel
theorem dL_law_846 : decode cL_law 846 = .ok (.iload_n 3, 1) := by decide +kernel
theorem dL_law_847 : decode cL_law 847 = .ok (.iconst 2, 1) := by decide +kernel
theorem dL_law_848 : decode cL_law 848 = .ok (.iadd, 1) := by decide +kernel
theorem dL_law_849 : decode cL_law 849 = .ok (.iaload, 1) := by decide +kernel
theorem dL_law_850 : decode cL_law 850 = .ok (.invokevirtual 118, 3) := by decide +kernel
theorem dL_law_853 : decode cL_law 853 = .ok (.if_icmp .eq 269, 3) := by decide +kernel
theorem dL_law_856 : decode cL_law 856 = .ok (.iconst 0, 1) := by decide +kernel
theorem dL_law_857 : decode cL_law 857 = .ok (.ireturn, 1) := by decide +kernel
theorem dL_law_858 : decode cL_law 858 = .ok (.aload_n 1, 1) := by decide +kernel
theorem dL_law_859 : decode cL_law 859 = .ok (.invokevirtual 119, 3) := by decide +kernel
theorem dL_law_862 : decode cL_law 862 = .ok (.aload_n 2, 1) := by decide +kernel
theorem dL_law_863 : decode cL_law 863 = .ok (.invokevirtual 122, 3) := by decide +kernel
theorem dL_law_866 : decode cL_law 866 = .ok (.if_icmp .eq 256, 3) := by decide +kernel
theorem dL_law_869 : decode cL_law 869 = .ok (.iconst 0, 1) := by decide +kernel
theorem dL_law_870 : decode cL_law 870 = .ok (.ireturn, 1) := by decide +kernel
theorem dL_law_871 : decode cL_law 871 = .ok (.aload_n 1, 1) := by decide +kernel
theorem dL_law_872 : decode cL_law 872 = .ok (.aload_n 0, 1) := by decide +kernel
theorem dL_law_873 : decode cL_law 873 = .ok (.iload_n 3, 1) := by decide +kernel
theorem dL_law_874 : decode cL_law 874 = .ok (.iconst 1, 1) := by decide +kernel
theorem dL_law_875 : decode cL_law 875 = .ok (.iadd, 1) := by decide +kernel
theorem dL_law_876 : decode cL_law 876 = .ok (.iaload, 1) := by decide +kernel
theorem dL_law_877 : decode cL_law 877 = .ok (.aload_n 0, 1) := by decide +kernel
theorem dL_law_878 : decode cL_law 878 = .ok (.iload_n 3, 1) := by decide +kernel
theorem dL_law_879 : decode cL_law 879 = .ok (.iconst 2, 1) := by decide +kernel
theorem dL_law_880 : decode cL_law 880 = .ok (.iadd, 1) := by decide +kernel
theorem dL_law_881 : decode cL_law 881 = .ok (.iaload, 1) := by decide +kernel
theorem dL_law_882 : decode cL_law 882 = .ok (.invokevirtual 123, 3) := by decide +kernel
theorem dL_law_885 : decode cL_law 885 = .ok (.aload_n 2, 1) := by decide +kernel
theorem dL_law_886 : decode cL_law 886 = .ok (.aload_n 0, 1) := by decide +kernel
theorem dL_law_887 : decode cL_law 887 = .ok (.iload_n 3, 1) := by decide +kernel
theorem dL_law_888 : decode cL_law 888 = .ok (.iconst 1, 1) := by decide +kernel
theorem dL_law_889 : decode cL_law 889 = .ok (.iadd, 1) := by decide +kernel
theorem dL_law_890 : decode cL_law 890 = .ok (.iaload, 1) := by decide +kernel
theorem dL_law_891 : decode cL_law 891 = .ok (.aload_n 0, 1) := by decide +kernel
theorem dL_law_892 : decode cL_law 892 = .ok (.iload_n 3, 1) := by decide +kernel
theorem dL_law_893 : decode cL_law 893 = .ok (.iconst 2, 1) := by decide +kernel
theorem dL_law_894 : decode cL_law 894 = .ok (.iadd, 1) := by decide +kernel
theorem dL_law_895 : decode cL_law 895 = .ok (.iaload, 1) := by decide +kernel
theorem dL_law_896 : decode cL_law 896 = .ok (.invokevirtual 126, 3) := by decide +kernel
theorem dL_law_899 : decode cL_law 899 = .ok (.if_icmp .eq 223, 3) := by decide +kernel
theorem dL_law_902 : decode cL_law 902 = .ok (.iconst 0, 1) := by decide +kernel
theorem dL_law_903 : decode cL_law 903 = .ok (.ireturn, 1) := by decide +kernel
theorem dL_law_904 : decode cL_law 904 = .ok (.aload_n 1, 1) := by decide +kernel
theorem dL_law_905 : decode cL_law 905 = .ok (.aload_n 0, 1) := by decide +kernel
theorem dL_law_906 : decode cL_law 906 = .ok (.iload_n 3, 1) := by decide +kernel
theorem dL_law_907 : decode cL_law 907 = .ok (.iconst 1, 1) := by decide +kernel
theorem dL_law_908 : decode cL_law 908 = .ok (.iadd, 1) := by decide +kernel
theorem dL_law_909 : decode cL_law 909 = .ok (.iaload, 1) := by decide +kernel
theorem dL_law_910 : decode cL_law 910 = .ok (.aload_n 0, 1) := by decide +kernel
theorem dL_law_911 : decode cL_law 911 = .ok (.iload_n 3, 1) := by decide +kernel
theorem dL_law_912 : decode cL_law 912 = .ok (.iconst 2, 1) := by decide +kernel
theorem dL_law_913 : decode cL_law 913 = .ok (.iadd, 1) := by decide +kernel
theorem dL_law_914 : decode cL_law 914 = .ok (.iaload, 1) := by decide +kernel
theorem dL_law_915 : decode cL_law 915 = .ok (.aload_n 0, 1) := by decide +kernel
theorem dL_law_916 : decode cL_law 916 = .ok (.iload_n 3, 1) := by decide +kernel
theorem dL_law_917 : decode cL_law 917 = .ok (.iconst 3, 1) := by decide +kernel
theorem dL_law_918 : decode cL_law 918 = .ok (.iadd, 1) := by decide +kernel
theorem dL_law_919 : decode cL_law 919 = .ok (.iaload, 1) := by decide +kernel
theorem dL_law_920 : decode cL_law 920 = .ok (.invokevirtual 127, 3) := by decide +kernel
theorem dL_law_923 : decode cL_law 923 = .ok (.aload_n 2, 1) := by decide +kernel
theorem dL_law_924 : decode cL_law 924 = .ok (.aload_n 0, 1) := by decide +kernel
theorem dL_law_925 : decode cL_law 925 = .ok (.iload_n 3, 1) := by decide +kernel
theorem dL_law_926 : decode cL_law 926 = .ok (.iconst 1, 1) := by decide +kernel
theorem dL_law_927 : decode cL_law 927 = .ok (.iadd, 1) := by decide +kernel
theorem dL_law_928 : decode cL_law 928 = .ok (.iaload, 1) := by decide +kernel
theorem dL_law_929 : decode cL_law 929 = .ok (.aload_n 0, 1) := by decide +kernel
theorem dL_law_930 : decode cL_law 930 = .ok (.iload_n 3, 1) := by decide +kernel
theorem dL_law_931 : decode cL_law 931 = .ok (.iconst 2, 1) := by decide +kernel
theorem dL_law_932 : decode cL_law 932 = .ok (.iadd, 1) := by decide +kernel
theorem dL_law_933 : decode cL_law 933 = .ok (.iaload, 1) := by decide +kernel
theorem dL_law_934 : decode cL_law 934 = .ok (.aload_n 0, 1) := by decide +kernel
theorem dL_law_935 : decode cL_law 935 = .ok (.iload_n 3, 1) := by decide +kernel
theorem dL_law_936 : decode cL_law 936 = .ok (.iconst 3, 1) := by decide +kernel
theorem dL_law_937 : decode cL_law 937 = .ok (.iadd, 1) := by decide +kernel
theorem dL_law_938 : decode cL_law 938 = .ok (.iaload, 1) := by decide +kernel
theorem dL_law_939 : decode cL_law 939 = .ok (.invokevirtual 130, 3) := by decide +kernel
theorem dL_law_942 : decode cL_law 942 = .ok (.if_icmp .eq 180, 3) := by decide +kernel
theorem dL_law_945 : decode cL_law 945 = .ok (.iconst 0, 1) := by decide +kernel
theorem dL_law_946 : decode cL_law 946 = .ok (.ireturn, 1) := by decide +kernel
theorem dL_law_947 : decode cL_law 947 = .ok (.aload_n 1, 1) := by decide +kernel
theorem dL_law_948 : decode cL_law 948 = .ok (.aload_n 0, 1) := by decide +kernel
theorem dL_law_949 : decode cL_law 949 = .ok (.iload_n 3, 1) := by decide +kernel
theorem dL_law_950 : decode cL_law 950 = .ok (.iconst 1, 1) := by decide +kernel
theorem dL_law_951 : decode cL_law 951 = .ok (.iadd, 1) := by decide +kernel
theorem dL_law_952 : decode cL_law 952 = .ok (.iaload, 1) := by decide +kernel
theorem dL_law_953 : decode cL_law 953 = .ok (.aload_n 0, 1) := by decide +kernel
theorem dL_law_954 : decode cL_law 954 = .ok (.iload_n 3, 1) := by decide +kernel
theorem dL_law_955 : decode cL_law 955 = .ok (.iconst 2, 1) := by decide +kernel
theorem dL_law_956 : decode cL_law 956 = .ok (.iadd, 1) := by decide +kernel
theorem dL_law_957 : decode cL_law 957 = .ok (.iaload, 1) := by decide +kernel
theorem dL_law_958 : decode cL_law 958 = .ok (.invokevirtual 131, 3) := by decide +kernel
theorem dL_law_961 : decode cL_law 961 = .ok (.aload_n 2, 1) := by decide +kernel
theorem dL_law_962 : decode cL_law 962 = .ok (.aload_n 0, 1) := by decide +kernel
theorem dL_law_963 : decode cL_law 963 = .ok (.iload_n 3, 1) := by decide +kernel
theorem dL_law_964 : decode cL_law 964 = .ok (.iconst 1, 1) := by decide +kernel
theorem dL_law_965 : decode cL_law 965 = .ok (.iadd, 1) := by decide +kernel
theorem dL_law_966 : decode cL_law 966 = .ok (.iaload, 1) := by decide +kernel
theorem dL_law_967 : decode cL_law 967 = .ok (.aload_n 0, 1) := by decide +kernel
theorem dL_law_968 : decode cL_law 968 = .ok (.iload_n 3, 1) := by decide +kernel
theorem dL_law_969 : decode cL_law 969 = .ok (.iconst 2, 1) := by decide +kernel
theorem dL_law_970 : decode cL_law 970 = .ok (.iadd, 1) := by decide +kernel
theorem dL_law_971 : decode cL_law 971 = .ok (.iaload, 1) := by decide +kernel
theorem dL_law_972 : decode cL_law 972 = .ok (.invokevirtual 135, 3) := by decide +kernel
theorem dL_law_975 : decode cL_law 975 = .ok (.lcmp, 1) := by decide +kernel
theorem dL_law_976 : decode cL_law 976 = .ok (.ifCond .eq 146, 3) := by decide +kernel
theorem dL_law_979 : decode cL_law 979 = .ok (.iconst 0, 1) := by decide +kernel
theorem dL_law_980 : decode cL_law 980 = .ok (.ireturn, 1) := by decide +kernel
theorem dL_law_981 : decode cL_law 981 = .ok (.aload_n 1, 1) := by decide +kernel
theorem dL_law_982 : decode cL_law 982 = .ok (.aload_n 0, 1) := by decide +kernel
theorem dL_law_983 : decode cL_law 983 = .ok (.iload_n 3, 1) := by decide +kernel
theorem dL_law_984 : decode cL_law 984 = .ok (.iconst 1, 1) := by decide +kernel
theorem dL_law_985 : decode cL_law 985 = .ok (.iadd, 1) := by decide +kernel
theorem dL_law_986 : decode cL_law 986 = .ok (.iaload, 1) := by decide +kernel
theorem dL_law_987 : decode cL_law 987 = .ok (.aload_n 0, 1) := by decide +kernel
theorem dL_law_988 : decode cL_law 988 = .ok (.iload_n 3, 1) := by decide +kernel
theorem dL_law_989 : decode cL_law 989 = .ok (.iconst 2, 1) := by decide +kernel
theorem dL_law_990 : decode cL_law 990 = .ok (.iadd, 1) := by decide +kernel
theorem dL_law_991 : decode cL_law 991 = .ok (.iaload, 1) := by decide +kernel
theorem dL_law_992 : decode cL_law 992 = .ok (.invokevirtual 136, 3) := by decide +kernel
theorem dL_law_995 : decode cL_law 995 = .ok (.aload_n 2, 1) := by decide +kernel
theorem dL_law_996 : decode cL_law 996 = .ok (.aload_n 0, 1) := by decide +kernel
theorem dL_law_997 : decode cL_law 997 = .ok (.iload_n 3, 1) := by decide +kernel
theorem dL_law_998 : decode cL_law 998 = .ok (.iconst 1, 1) := by decide +kernel
theorem dL_law_999 : decode cL_law 999 = .ok (.iadd, 1) := by decide +kernel
theorem dL_law_1000 : decode cL_law 1000 = .ok (.iaload, 1) := by decide +kernel
theorem dL_law_1001 : decode cL_law 1001 = .ok (.aload_n 0, 1) := by decide +kernel
theorem dL_law_1002 : decode cL_law 1002 = .ok (.iload_n 3, 1) := by decide +kernel
theorem dL_law_1003 : decode cL_law 1003 = .ok (.iconst 2, 1) := by decide +kernel
theorem dL_law_1004 : decode cL_law 1004 = .ok (.iadd, 1) := by decide +kernel
theorem dL_law_1005 : decode cL_law 1005 = .ok (.iaload, 1) := by decide +kernel
theorem dL_law_1006 : decode cL_law 1006 = .ok (.invokevirtual 139, 3) := by decide +kernel
theorem dL_law_1009 : decode cL_law 1009 = .ok (.if_icmp .eq 113, 3) := by decide +kernel
theorem dL_law_1012 : decode cL_law 1012 = .ok (.iconst 0, 1) := by decide +kernel
theorem dL_law_1013 : decode cL_law 1013 = .ok (.ireturn, 1) := by decide +kernel
theorem dL_law_1014 : decode cL_law 1014 = .ok (.aload_n 1, 1) := by decide +kernel
theorem dL_law_1015 : decode cL_law 1015 = .ok (.aload_n 0, 1) := by decide +kernel
theorem dL_law_1016 : decode cL_law 1016 = .ok (.iload_n 3, 1) := by decide +kernel
theorem dL_law_1017 : decode cL_law 1017 = .ok (.iconst 1, 1) := by decide +kernel
theorem dL_law_1018 : decode cL_law 1018 = .ok (.iadd, 1) := by decide +kernel
theorem dL_law_1019 : decode cL_law 1019 = .ok (.iaload, 1) := by decide +kernel
theorem dL_law_1020 : decode cL_law 1020 = .ok (.invokevirtual 140, 3) := by decide +kernel
theorem dL_law_1023 : decode cL_law 1023 = .ok (.aload_n 2, 1) := by decide +kernel
theorem dL_law_1024 : decode cL_law 1024 = .ok (.aload_n 0, 1) := by decide +kernel
theorem dL_law_1025 : decode cL_law 1025 = .ok (.iload_n 3, 1) := by decide +kernel
theorem dL_law_1026 : decode cL_law 1026 = .ok (.iconst 1, 1) := by decide +kernel
theorem dL_law_1027 : decode cL_law 1027 = .ok (.iadd, 1) := by decide +kernel
theorem dL_law_1028 : decode cL_law 1028 = .ok (.iaload, 1) := by decide +kernel
theorem dL_law_1029 : decode cL_law 1029 = .ok (.invokevirtual 143, 3) := by decide +kernel
theorem dL_law_1032 : decode cL_law 1032 = .ok (.if_icmp .eq 90, 3) := by decide +kernel
theorem dL_law_1035 : decode cL_law 1035 = .ok (.iconst 0, 1) := by decide +kernel
theorem dL_law_1036 : decode cL_law 1036 = .ok (.ireturn, 1) := by decide +kernel
theorem dL_law_1037 : decode cL_law 1037 = .ok (.aload_n 1, 1) := by decide +kernel
theorem dL_law_1038 : decode cL_law 1038 = .ok (.aload_n 0, 1) := by decide +kernel
theorem dL_law_1039 : decode cL_law 1039 = .ok (.iload_n 3, 1) := by decide +kernel
theorem dL_law_1040 : decode cL_law 1040 = .ok (.iconst 1, 1) := by decide +kernel
theorem dL_law_1041 : decode cL_law 1041 = .ok (.iadd, 1) := by decide +kernel
theorem dL_law_1042 : decode cL_law 1042 = .ok (.iaload, 1) := by decide +kernel
theorem dL_law_1043 : decode cL_law 1043 = .ok (.invokevirtual 144, 3) := by decide +kernel
theorem dL_law_1046 : decode cL_law 1046 = .ok (.aload_n 2, 1) := by decide +kernel
theorem dL_law_1047 : decode cL_law 1047 = .ok (.aload_n 0, 1) := by decide +kernel
theorem dL_law_1048 : decode cL_law 1048 = .ok (.iload_n 3, 1) := by decide +kernel
theorem dL_law_1049 : decode cL_law 1049 = .ok (.iconst 1, 1) := by decide +kernel
theorem dL_law_1050 : decode cL_law 1050 = .ok (.iadd, 1) := by decide +kernel
theorem dL_law_1051 : decode cL_law 1051 = .ok (.iaload, 1) := by decide +kernel
theorem dL_law_1052 : decode cL_law 1052 = .ok (.invokevirtual 147, 3) := by decide +kernel
theorem dL_law_1055 : decode cL_law 1055 = .ok (.if_icmp .eq 67, 3) := by decide +kernel
theorem dL_law_1058 : decode cL_law 1058 = .ok (.iconst 0, 1) := by decide +kernel
theorem dL_law_1059 : decode cL_law 1059 = .ok (.ireturn, 1) := by decide +kernel
theorem dL_law_1060 : decode cL_law 1060 = .ok (.aload_n 1, 1) := by decide +kernel
theorem dL_law_1061 : decode cL_law 1061 = .ok (.invokevirtual 148, 3) := by decide +kernel
theorem dL_law_1064 : decode cL_law 1064 = .ok (.aload_n 2, 1) := by decide +kernel
theorem dL_law_1065 : decode cL_law 1065 = .ok (.invokevirtual 151, 3) := by decide +kernel
theorem dL_law_1068 : decode cL_law 1068 = .ok (.if_icmp .eq 54, 3) := by decide +kernel
theorem dL_law_1071 : decode cL_law 1071 = .ok (.iconst 0, 1) := by decide +kernel
theorem dL_law_1072 : decode cL_law 1072 = .ok (.ireturn, 1) := by decide +kernel
theorem dL_law_1073 : decode cL_law 1073 = .ok (.aload_n 1, 1) := by decide +kernel
theorem dL_law_1074 : decode cL_law 1074 = .ok (.invokevirtual 152, 3) := by decide +kernel
theorem dL_law_1077 : decode cL_law 1077 = .ok (.aload_n 2, 1) := by decide +kernel
theorem dL_law_1078 : decode cL_law 1078 = .ok (.invokevirtual 155, 3) := by decide +kernel
theorem dL_law_1081 : decode cL_law 1081 = .ok (.if_icmp .eq 41, 3) := by decide +kernel
theorem dL_law_1084 : decode cL_law 1084 = .ok (.iconst 0, 1) := by decide +kernel
theorem dL_law_1085 : decode cL_law 1085 = .ok (.ireturn, 1) := by decide +kernel
theorem dL_law_1086 : decode cL_law 1086 = .ok (.aload_n 1, 1) := by decide +kernel
theorem dL_law_1087 : decode cL_law 1087 = .ok (.invokevirtual 156, 3) := by decide +kernel
theorem dL_law_1090 : decode cL_law 1090 = .ok (.aload_n 2, 1) := by decide +kernel
theorem dL_law_1091 : decode cL_law 1091 = .ok (.invokevirtual 159, 3) := by decide +kernel
theorem dL_law_1094 : decode cL_law 1094 = .ok (.if_icmp .eq 28, 3) := by decide +kernel
theorem dL_law_1097 : decode cL_law 1097 = .ok (.iconst 0, 1) := by decide +kernel
theorem dL_law_1098 : decode cL_law 1098 = .ok (.ireturn, 1) := by decide +kernel
theorem dL_law_1099 : decode cL_law 1099 = .ok (.aload_n 1, 1) := by decide +kernel
theorem dL_law_1100 : decode cL_law 1100 = .ok (.aload_n 0, 1) := by decide +kernel
theorem dL_law_1101 : decode cL_law 1101 = .ok (.iload_n 3, 1) := by decide +kernel
theorem dL_law_1102 : decode cL_law 1102 = .ok (.iconst 1, 1) := by decide +kernel
theorem dL_law_1103 : decode cL_law 1103 = .ok (.iadd, 1) := by decide +kernel
theorem dL_law_1104 : decode cL_law 1104 = .ok (.iaload, 1) := by decide +kernel
theorem dL_law_1105 : decode cL_law 1105 = .ok (.invokevirtual 160, 3) := by decide +kernel
theorem dL_law_1108 : decode cL_law 1108 = .ok (.aload_n 2, 1) := by decide +kernel
theorem dL_law_1109 : decode cL_law 1109 = .ok (.aload_n 0, 1) := by decide +kernel
theorem dL_law_1110 : decode cL_law 1110 = .ok (.iload_n 3, 1) := by decide +kernel
theorem dL_law_1111 : decode cL_law 1111 = .ok (.iconst 1, 1) := by decide +kernel
theorem dL_law_1112 : decode cL_law 1112 = .ok (.iadd, 1) := by decide +kernel
theorem dL_law_1113 : decode cL_law 1113 = .ok (.iaload, 1) := by decide +kernel
theorem dL_law_1114 : decode cL_law 1114 = .ok (.invokevirtual 163, 3) := by decide +kernel
theorem dL_law_1117 : decode cL_law 1117 = .ok (.if_icmp .eq 5, 3) := by decide +kernel
theorem dL_law_1120 : decode cL_law 1120 = .ok (.iconst 0, 1) := by decide +kernel
theorem dL_law_1121 : decode cL_law 1121 = .ok (.ireturn, 1) := by decide +kernel
theorem dL_law_1122 : decode cL_law 1122 = .ok (.iinc 3 5, 3) := by decide +kernel
theorem dL_law_1125 : decode cL_law 1125 = .ok (.goto (-1107), 3) := by decide +kernel
theorem dL_law_1128 : decode cL_law 1128 = .ok (.iconst 1, 1) := by decide +kernel
theorem dL_law_1129 : decode cL_law 1129 = .ok (.ireturn, 1) := by decide +kernel
