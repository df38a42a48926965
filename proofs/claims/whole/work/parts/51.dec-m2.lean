theorem dX9_part_13 : decode cX9_part 13 = .ok (.ifCond .ne 40, 3) := by decide +kernel
theorem dX9_part_16 : decode cX9_part 16 = .ok (.aload_n 0, 1) := by decide +kernel
theorem dX9_part_17 : decode cX9_part 17 = .ok (.aload_n 0, 1) := by decide +kernel
theorem dX9_part_18 : decode cX9_part 18 = .ok (.getfield 269, 3) := by decide +kernel
theorem dX9_part_21 : decode cX9_part 21 = .ok (.aload_n 0, 1) := by decide +kernel
theorem dX9_part_22 : decode cX9_part 22 = .ok (.getfield 272, 3) := by decide +kernel
theorem dX9_part_25 : decode cX9_part 25 = .ok (.invokevirtual 301, 3) := by decide +kernel
theorem dX9_part_28 : decode cX9_part 28 = .ok (.lstore 4, 2) := by decide +kernel
theorem dX9_part_30 : decode cX9_part 30 = .ok (.lload 4, 2) := by decide +kernel
theorem dX9_part_32 : decode cX9_part 32 = .ok (.lconst 0, 1) := by decide +kernel
theorem dX9_part_33 : decode cX9_part 33 = .ok (.lcmp, 1) := by decide +kernel
theorem dX9_part_34 : decode cX9_part 34 = .ok (.ifCond .ge 11, 3) := by decide +kernel
theorem dX9_part_37 : decode cX9_part 37 = .ok (.aload_n 0, 1) := by decide +kernel
theorem dX9_part_38 : decode cX9_part 38 = .ok (.bipush 11, 2) := by decide +kernel
theorem dX9_part_40 : decode cX9_part 40 = .ok (.iload_n 3, 1) := by decide +kernel
theorem dX9_part_41 : decode cX9_part 41 = .ok (.invokevirtual 191, 3) := by decide +kernel
theorem dX9_part_44 : decode cX9_part 44 = .ok (.return_, 1) := by decide +kernel
theorem dX9_part_45 : decode cX9_part 45 = .ok (.aload_n 0, 1) := by decide +kernel
theorem dX9_part_46 : decode cX9_part 46 = .ok (.aload_n 0, 1) := by decide +kernel
theorem dX9_part_47 : decode cX9_part 47 = .ok (.getfield 284, 3) := by decide +kernel
theorem dX9_part_50 : decode cX9_part 50 = .ok (.putfield 269, 3) := by decide +kernel
theorem dX9_part_53 : decode cX9_part 53 = .ok (.aload_n 0, 1) := by decide +kernel
theorem dX9_part_54 : decode cX9_part 54 = .ok (.getfield 221, 3) := by decide +kernel
theorem dX9_part_57 : decode cX9_part 57 = .ok (.aload_n 0, 1) := by decide +kernel
theorem dX9_part_58 : decode cX9_part 58 = .ok (.getfield 257, 3) := by decide +kernel
theorem dX9_part_61 : decode cX9_part 61 = .ok (.isub, 1) := by decide +kernel
theorem dX9_part_62 : decode cX9_part 62 = .ok (.i2l, 1) := by decide +kernel
theorem dX9_part_63 : decode cX9_part 63 = .ok (.lload 4, 2) := by decide +kernel
theorem dX9_part_65 : decode cX9_part 65 = .ok (.ladd, 1) := by decide +kernel
theorem dX9_part_66 : decode cX9_part 66 = .ok (.aload_n 0, 1) := by decide +kernel
theorem dX9_part_67 : decode cX9_part 67 = .ok (.getfield 260, 3) := by decide +kernel
theorem dX9_part_70 : decode cX9_part 70 = .ok (.i2l, 1) := by decide +kernel
theorem dX9_part_71 : decode cX9_part 71 = .ok (.lcmp, 1) := by decide +kernel
theorem dX9_part_72 : decode cX9_part 72 = .ok (.ifCond .le 11, 3) := by decide +kernel
theorem dX9_part_75 : decode cX9_part 75 = .ok (.aload_n 0, 1) := by decide +kernel
theorem dX9_part_76 : decode cX9_part 76 = .ok (.bipush 15, 2) := by decide +kernel
theorem dX9_part_78 : decode cX9_part 78 = .ok (.iload_n 3, 1) := by decide +kernel
theorem dX9_part_79 : decode cX9_part 79 = .ok (.invokevirtual 191, 3) := by decide +kernel
theorem dX9_part_82 : decode cX9_part 82 = .ok (.return_, 1) := by decide +kernel
theorem dX9_part_83 : decode cX9_part 83 = .ok (.aload_n 0, 1) := by decide +kernel
theorem dX9_part_84 : decode cX9_part 84 = .ok (.iload_n 1, 1) := by decide +kernel
theorem dX9_part_85 : decode cX9_part 85 = .ok (.iload_n 2, 1) := by decide +kernel
theorem dX9_part_86 : decode cX9_part 86 = .ok (.invokevirtual 290, 3) := by decide +kernel
theorem dX9_part_89 : decode cX9_part 89 = .ok (.istore 6, 2) := by decide +kernel
theorem dX9_part_91 : decode cX9_part 91 = .ok (.lconst 0, 1) := by decide +kernel
theorem dX9_part_92 : decode cX9_part 92 = .ok (.lstore 7, 2) := by decide +kernel
theorem dX9_part_94 : decode cX9_part 94 = .ok (.iconst 0, 1) := by decide +kernel
theorem dX9_part_95 : decode cX9_part 95 = .ok (.istore 9, 2) := by decide +kernel
theorem dX9_part_97 : decode cX9_part 97 = .ok (.iload 6, 2) := by decide +kernel
theorem dX9_part_99 : decode cX9_part 99 = .ok (.iconst 3, 1) := by decide +kernel
theorem dX9_part_100 : decode cX9_part 100 = .ok (.if_icmp .ne 71, 3) := by decide +kernel
theorem dX9_part_103 : decode cX9_part 103 = .ok (.aload_n 0, 1) := by decide +kernel
theorem dX9_part_104 : decode cX9_part 104 = .ok (.iload_n 1, 1) := by decide +kernel
theorem dX9_part_105 : decode cX9_part 105 = .ok (.iload_n 2, 1) := by decide +kernel
theorem dX9_part_106 : decode cX9_part 106 = .ok (.invokevirtual 305, 3) := by decide +kernel
theorem dX9_part_109 : decode cX9_part 109 = .ok (.istore 9, 2) := by decide +kernel
theorem dX9_part_111 : decode cX9_part 111 = .ok (.aload_n 0, 1) := by decide +kernel
theorem dX9_part_112 : decode cX9_part 112 = .ok (.iload 9, 2) := by decide +kernel
theorem dX9_part_114 : decode cX9_part 114 = .ok (.invokevirtual 308, 3) := by decide +kernel
theorem dX9_part_117 : decode cX9_part 117 = .ok (.lstore 7, 2) := by decide +kernel
theorem dX9_part_119 : decode cX9_part 119 = .ok (.lload 7, 2) := by decide +kernel
theorem dX9_part_121 : decode cX9_part 121 = .ok (.lconst 0, 1) := by decide +kernel
theorem dX9_part_122 : decode cX9_part 122 = .ok (.lcmp, 1) := by decide +kernel
theorem dX9_part_123 : decode cX9_part 123 = .ok (.ifCond .ge 11, 3) := by decide +kernel
theorem dX9_part_126 : decode cX9_part 126 = .ok (.aload_n 0, 1) := by decide +kernel
theorem dX9_part_127 : decode cX9_part 127 = .ok (.bipush 13, 2) := by decide +kernel
theorem dX9_part_129 : decode cX9_part 129 = .ok (.iload_n 3, 1) := by decide +kernel
theorem dX9_part_130 : decode cX9_part 130 = .ok (.invokevirtual 191, 3) := by decide +kernel
theorem dX9_part_133 : decode cX9_part 133 = .ok (.return_, 1) := by decide +kernel
theorem dX9_part_134 : decode cX9_part 134 = .ok (.aload_n 0, 1) := by decide +kernel
theorem dX9_part_135 : decode cX9_part 135 = .ok (.lload 7, 2) := by decide +kernel
theorem dX9_part_137 : decode cX9_part 137 = .ok (.invokevirtual 312, 3) := by decide +kernel
theorem dX9_part_140 : decode cX9_part 140 = .ok (.iconst 0, 1) := by decide +kernel
theorem dX9_part_141 : decode cX9_part 141 = .ok (.istore 10, 2) := by decide +kernel
theorem dX9_part_143 : decode cX9_part 143 = .ok (.iload 10, 2) := by decide +kernel
theorem dX9_part_145 : decode cX9_part 145 = .ok (.i2l, 1) := by decide +kernel
theorem dX9_part_146 : decode cX9_part 146 = .ok (.lload 4, 2) := by decide +kernel
theorem dX9_part_148 : decode cX9_part 148 = .ok (.lcmp, 1) := by decide +kernel
theorem dX9_part_149 : decode cX9_part 149 = .ok (.ifCond .ge 19, 3) := by decide +kernel
theorem dX9_part_152 : decode cX9_part 152 = .ok (.aload_n 0, 1) := by decide +kernel
theorem dX9_part_153 : decode cX9_part 153 = .ok (.lload 7, 2) := by decide +kernel
theorem dX9_part_155 : decode cX9_part 155 = .ok (.l2i, 1) := by decide +kernel
theorem dX9_part_156 : decode cX9_part 156 = .ok (.iload 10, 2) := by decide +kernel
theorem dX9_part_158 : decode cX9_part 158 = .ok (.iadd, 1) := by decide +kernel
theorem dX9_part_159 : decode cX9_part 159 = .ok (.invokevirtual 316, 3) := by decide +kernel
theorem dX9_part_162 : decode cX9_part 162 = .ok (.iinc 10 1, 3) := by decide +kernel
theorem dX9_part_165 : decode cX9_part 165 = .ok (.goto (-22), 3) := by decide +kernel
theorem dX9_part_168 : decode cX9_part 168 = .ok (.goto 133, 3) := by decide +kernel
theorem dX9_part_171 : decode cX9_part 171 = .ok (.aload_n 0, 1) := by decide +kernel
theorem dX9_part_172 : decode cX9_part 172 = .ok (.getfield 266, 3) := by decide +kernel
theorem dX9_part_175 : decode cX9_part 175 = .ok (.aload_n 0, 1) := by decide +kernel
theorem dX9_part_176 : decode cX9_part 176 = .ok (.getfield 263, 3) := by decide +kernel
theorem dX9_part_179 : decode cX9_part 179 = .ok (.isub, 1) := by decide +kernel
theorem dX9_part_180 : decode cX9_part 180 = .ok (.i2l, 1) := by decide +kernel
theorem dX9_part_181 : decode cX9_part 181 = .ok (.iload 6, 2) := by decide +kernel
theorem dX9_part_183 : decode cX9_part 183 = .ok (.iconst 1, 1) := by decide +kernel
theorem dX9_part_184 : decode cX9_part 184 = .ok (.if_icmp .ne 8, 3) := by decide +kernel
theorem dX9_part_187 : decode cX9_part 187 = .ok (.lload 4, 2) := by decide +kernel
theorem dX9_part_189 : decode cX9_part 189 = .ok (.goto 4, 3) := by decide +kernel
theorem dX9_part_192 : decode cX9_part 192 = .ok (.lconst 1, 1) := by decide +kernel
theorem dX9_part_193 : decode cX9_part 193 = .ok (.lcmp, 1) := by decide +kernel
theorem dX9_part_194 : decode cX9_part 194 = .ok (.ifCond .ge 11, 3) := by decide +kernel
theorem dX9_part_197 : decode cX9_part 197 = .ok (.aload_n 0, 1) := by decide +kernel
theorem dX9_part_198 : decode cX9_part 198 = .ok (.bipush 12, 2) := by decide +kernel
theorem dX9_part_200 : decode cX9_part 200 = .ok (.iload_n 3, 1) := by decide +kernel
theorem dX9_part_201 : decode cX9_part 201 = .ok (.invokevirtual 191, 3) := by decide +kernel
theorem dX9_part_204 : decode cX9_part 204 = .ok (.return_, 1) := by decide +kernel
theorem dX9_part_205 : decode cX9_part 205 = .ok (.iconst 0, 1) := by decide +kernel
theorem dX9_part_206 : decode cX9_part 206 = .ok (.istore 10, 2) := by decide +kernel
theorem dX9_part_208 : decode cX9_part 208 = .ok (.iload 10, 2) := by decide +kernel
theorem dX9_part_210 : decode cX9_part 210 = .ok (.i2l, 1) := by decide +kernel
theorem dX9_part_211 : decode cX9_part 211 = .ok (.lload 4, 2) := by decide +kernel
theorem dX9_part_213 : decode cX9_part 213 = .ok (.lcmp, 1) := by decide +kernel
theorem dX9_part_214 : decode cX9_part 214 = .ok (.ifCond .ge 65, 3) := by decide +kernel
theorem dX9_part_217 : decode cX9_part 217 = .ok (.aload_n 0, 1) := by decide +kernel
theorem dX9_part_218 : decode cX9_part 218 = .ok (.getfield 82, 3) := by decide +kernel
theorem dX9_part_221 : decode cX9_part 221 = .ok (.aload_n 0, 1) := by decide +kernel
theorem dX9_part_222 : decode cX9_part 222 = .ok (.getfield 221, 3) := by decide +kernel
theorem dX9_part_225 : decode cX9_part 225 = .ok (.aload_n 0, 1) := by decide +kernel
theorem dX9_part_226 : decode cX9_part 226 = .ok (.getfield 7, 3) := by decide +kernel
theorem dX9_part_229 : decode cX9_part 229 = .ok (.aload_n 0, 1) := by decide +kernel
theorem dX9_part_230 : decode cX9_part 230 = .ok (.getfield 195, 3) := by decide +kernel
theorem dX9_part_233 : decode cX9_part 233 = .ok (.aload_n 0, 1) := by decide +kernel
theorem dX9_part_234 : decode cX9_part 234 = .ok (.getfield 263, 3) := by decide +kernel
theorem dX9_part_237 : decode cX9_part 237 = .ok (.iadd, 1) := by decide +kernel
theorem dX9_part_238 : decode cX9_part 238 = .ok (.iload 6, 2) := by decide +kernel
theorem dX9_part_240 : decode cX9_part 240 = .ok (.iconst 1, 1) := by decide +kernel
theorem dX9_part_241 : decode cX9_part 241 = .ok (.if_icmp .ne 8, 3) := by decide +kernel
theorem dX9_part_244 : decode cX9_part 244 = .ok (.iload 10, 2) := by decide +kernel
theorem dX9_part_246 : decode cX9_part 246 = .ok (.goto 4, 3) := by decide +kernel
theorem dX9_part_249 : decode cX9_part 249 = .ok (.iconst 0, 1) := by decide +kernel
theorem dX9_part_250 : decode cX9_part 250 = .ok (.iadd, 1) := by decide +kernel
theorem dX9_part_251 : decode cX9_part 251 = .ok (.baload, 1) := by decide +kernel
theorem dX9_part_252 : decode cX9_part 252 = .ok (.bastore, 1) := by decide +kernel
theorem dX9_part_253 : decode cX9_part 253 = .ok (.aload_n 0, 1) := by decide +kernel
theorem dX9_part_254 : decode cX9_part 254 = .ok (.getfield 85, 3) := by decide +kernel
theorem dX9_part_257 : decode cX9_part 257 = .ok (.aload_n 0, 1) := by decide +kernel
theorem dX9_part_258 : decode cX9_part 258 = .ok (.getfield 221, 3) := by decide +kernel
theorem dX9_part_261 : decode cX9_part 261 = .ok (.iconst (-1), 1) := by decide +kernel
theorem dX9_part_262 : decode cX9_part 262 = .ok (.iastore, 1) := by decide +kernel
theorem dX9_part_263 : decode cX9_part 263 = .ok (.aload_n 0, 1) := by decide +kernel
theorem dX9_part_264 : decode cX9_part 264 = .ok (.dup, 1) := by decide +kernel
theorem dX9_part_265 : decode cX9_part 265 = .ok (.getfield 221, 3) := by decide +kernel
theorem dX9_part_268 : decode cX9_part 268 = .ok (.iconst 1, 1) := by decide +kernel
theorem dX9_part_269 : decode cX9_part 269 = .ok (.iadd, 1) := by decide +kernel
theorem dX9_part_270 : decode cX9_part 270 = .ok (.putfield 221, 3) := by decide +kernel
theorem dX9_part_273 : decode cX9_part 273 = .ok (.iinc 10 1, 3) := by decide +kernel
theorem dX9_part_276 : decode cX9_part 276 = .ok (.goto (-68), 3) := by decide +kernel
theorem dX9_part_279 : decode cX9_part 279 = .ok (.aload_n 0, 1) := by decide +kernel
theorem dX9_part_280 : decode cX9_part 280 = .ok (.dup, 1) := by decide +kernel
theorem dX9_part_281 : decode cX9_part 281 = .ok (.getfield 263, 3) := by decide +kernel
theorem dX9_part_284 : decode cX9_part 284 = .ok (.iload 6, 2) := by decide +kernel
theorem dX9_part_286 : decode cX9_part 286 = .ok (.iconst 1, 1) := by decide +kernel
theorem dX9_part_287 : decode cX9_part 287 = .ok (.if_icmp .ne 9, 3) := by decide +kernel
theorem dX9_part_290 : decode cX9_part 290 = .ok (.lload 4, 2) := by decide +kernel
theorem dX9_part_292 : decode cX9_part 292 = .ok (.l2i, 1) := by decide +kernel
theorem dX9_part_293 : decode cX9_part 293 = .ok (.goto 4, 3) := by decide +kernel
theorem dX9_part_296 : decode cX9_part 296 = .ok (.iconst 1, 1) := by decide +kernel
theorem dX9_part_297 : decode cX9_part 297 = .ok (.iadd, 1) := by decide +kernel
theorem dX9_part_298 : decode cX9_part 298 = .ok (.putfield 263, 3) := by decide +kernel
theorem dX9_part_301 : decode cX9_part 301 = .ok (.aload_n 0, 1) := by decide +kernel
theorem dX9_part_302 : decode cX9_part 302 = .ok (.getfield 224, 3) := by decide +kernel
theorem dX9_part_305 : decode cX9_part 305 = .ok (.ifCond .eq 22, 3) := by decide +kernel
theorem dX9_part_308 : decode cX9_part 308 = .ok (.aload_n 0, 1) := by decide +kernel
theorem dX9_part_309 : decode cX9_part 309 = .ok (.iload 6, 2) := by decide +kernel
theorem dX9_part_311 : decode cX9_part 311 = .ok (.lload 4, 2) := by decide +kernel
theorem dX9_part_313 : decode cX9_part 313 = .ok (.l2i, 1) := by decide +kernel
theorem dX9_part_314 : decode cX9_part 314 = .ok (.lload 7, 2) := by decide +kernel
theorem dX9_part_316 : decode cX9_part 316 = .ok (.l2i, 1) := by decide +kernel
theorem dX9_part_317 : decode cX9_part 317 = .ok (.iload 9, 2) := by decide +kernel
theorem dX9_part_319 : decode cX9_part 319 = .ok (.iload_n 1, 1) := by decide +kernel
theorem dX9_part_320 : decode cX9_part 320 = .ok (.aload_n 0, 1) := by decide +kernel
theorem dX9_part_321 : decode cX9_part 321 = .ok (.getfield 234, 3) := by decide +kernel
theorem dX9_part_324 : decode cX9_part 324 = .ok (.invokevirtual 320, 3) := by decide +kernel
theorem dX9_part_327 : decode cX9_part 327 = .ok (.return_, 1) := by decide +kernel
theorem dX9_copyOne_0 : decode cX9_copyOne 0 = .ok (.iload_n 1, 1) := by decide +kernel
theorem dX9_copyOne_1 : decode cX9_copyOne 1 = .ok (.aload_n 0, 1) := by decide +kernel
theorem dX9_copyOne_2 : decode cX9_copyOne 2 = .ok (.getfield 249, 3) := by decide +kernel
theorem dX9_copyOne_5 : decode cX9_copyOne 5 = .ok (.if_icmp .ge 7, 3) := by decide +kernel
theorem dX9_copyOne_8 : decode cX9_copyOne 8 = .ok (.iconst 1, 1) := by decide +kernel
theorem dX9_copyOne_9 : decode cX9_copyOne 9 = .ok (.goto 4, 3) := by decide +kernel
theorem dX9_copyOne_12 : decode cX9_copyOne 12 = .ok (.iconst 0, 1) := by decide +kernel
theorem dX9_copyOne_13 : decode cX9_copyOne 13 = .ok (.istore_n 2, 1) := by decide +kernel
theorem dX9_copyOne_14 : decode cX9_copyOne 14 = .ok (.iload_n 2, 1) := by decide +kernel
theorem dX9_copyOne_15 : decode cX9_copyOne 15 = .ok (.ifCond .eq 12, 3) := by decide +kernel
theorem dX9_copyOne_18 : decode cX9_copyOne 18 = .ok (.aload_n 0, 1) := by decide +kernel
theorem dX9_copyOne_19 : decode cX9_copyOne 19 = .ok (.getfield 252, 3) := by decide +kernel
theorem dX9_copyOne_22 : decode cX9_copyOne 22 = .ok (.iload_n 1, 1) := by decide +kernel
theorem dX9_copyOne_23 : decode cX9_copyOne 23 = .ok (.iadd, 1) := by decide +kernel
theorem dX9_copyOne_24 : decode cX9_copyOne 24 = .ok (.goto 14, 3) := by decide +kernel
theorem dX9_copyOne_27 : decode cX9_copyOne 27 = .ok (.aload_n 0, 1) := by decide +kernel
theorem dX9_copyOne_28 : decode cX9_copyOne 28 = .ok (.getfield 257, 3) := by decide +kernel
theorem dX9_copyOne_31 : decode cX9_copyOne 31 = .ok (.iload_n 1, 1) := by decide +kernel
theorem dX9_copyOne_32 : decode cX9_copyOne 32 = .ok (.iadd, 1) := by decide +kernel
theorem dX9_copyOne_33 : decode cX9_copyOne 33 = .ok (.aload_n 0, 1) := by decide +kernel
theorem dX9_copyOne_34 : decode cX9_copyOne 34 = .ok (.getfield 249, 3) := by decide +kernel
theorem dX9_copyOne_37 : decode cX9_copyOne 37 = .ok (.isub, 1) := by decide +kernel
theorem dX9_copyOne_38 : decode cX9_copyOne 38 = .ok (.istore_n 3, 1) := by decide +kernel
theorem dX9_copyOne_39 : decode cX9_copyOne 39 = .ok (.iload_n 2, 1) := by decide +kernel
theorem dX9_copyOne_40 : decode cX9_copyOne 40 = .ok (.ifCond .eq 15, 3) := by decide +kernel
theorem dX9_copyOne_43 : decode cX9_copyOne 43 = .ok (.aload_n 0, 1) := by decide +kernel
theorem dX9_copyOne_44 : decode cX9_copyOne 44 = .ok (.getfield 246, 3) := by decide +kernel
theorem dX9_copyOne_47 : decode cX9_copyOne 47 = .ok (.iconst 1, 1) := by decide +kernel
theorem dX9_copyOne_48 : decode cX9_copyOne 48 = .ok (.if_icmp .ne 7, 3) := by decide +kernel
theorem dX9_copyOne_51 : decode cX9_copyOne 51 = .ok (.iconst 1, 1) := by decide +kernel
theorem dX9_copyOne_52 : decode cX9_copyOne 52 = .ok (.goto 4, 3) := by decide +kernel
theorem dX9_copyOne_55 : decode cX9_copyOne 55 = .ok (.iconst 0, 1) := by decide +kernel
theorem dX9_copyOne_56 : decode cX9_copyOne 56 = .ok (.istore 4, 2) := by decide +kernel
theorem dX9_copyOne_58 : decode cX9_copyOne 58 = .ok (.aload_n 0, 1) := by decide +kernel
theorem dX9_copyOne_59 : decode cX9_copyOne 59 = .ok (.getfield 82, 3) := by decide +kernel
theorem dX9_copyOne_62 : decode cX9_copyOne 62 = .ok (.aload_n 0, 1) := by decide +kernel
theorem dX9_copyOne_63 : decode cX9_copyOne 63 = .ok (.getfield 221, 3) := by decide +kernel
theorem dX9_copyOne_66 : decode cX9_copyOne 66 = .ok (.iload 4, 2) := by decide +kernel
theorem dX9_copyOne_68 : decode cX9_copyOne 68 = .ok (.ifCond .eq 12, 3) := by decide +kernel
theorem dX9_copyOne_71 : decode cX9_copyOne 71 = .ok (.aload_n 0, 1) := by decide +kernel
theorem dX9_copyOne_72 : decode cX9_copyOne 72 = .ok (.getfield 76, 3) := by decide +kernel
theorem dX9_copyOne_75 : decode cX9_copyOne 75 = .ok (.iload_n 3, 1) := by decide +kernel
theorem dX9_copyOne_76 : decode cX9_copyOne 76 = .ok (.baload, 1) := by decide +kernel
theorem dX9_copyOne_77 : decode cX9_copyOne 77 = .ok (.goto 9, 3) := by decide +kernel
theorem dX9_copyOne_80 : decode cX9_copyOne 80 = .ok (.aload_n 0, 1) := by decide +kernel
theorem dX9_copyOne_81 : decode cX9_copyOne 81 = .ok (.getfield 82, 3) := by decide +kernel
theorem dX9_copyOne_84 : decode cX9_copyOne 84 = .ok (.iload_n 3, 1) := by decide +kernel
theorem dX9_copyOne_85 : decode cX9_copyOne 85 = .ok (.baload, 1) := by decide +kernel
theorem dX9_copyOne_86 : decode cX9_copyOne 86 = .ok (.bastore, 1) := by decide +kernel
theorem dX9_copyOne_87 : decode cX9_copyOne 87 = .ok (.aload_n 0, 1) := by decide +kernel
theorem dX9_copyOne_88 : decode cX9_copyOne 88 = .ok (.getfield 85, 3) := by decide +kernel
theorem dX9_copyOne_91 : decode cX9_copyOne 91 = .ok (.aload_n 0, 1) := by decide +kernel
theorem dX9_copyOne_92 : decode cX9_copyOne 92 = .ok (.getfield 221, 3) := by decide +kernel
theorem dX9_copyOne_95 : decode cX9_copyOne 95 = .ok (.iload 4, 2) := by decide +kernel
theorem dX9_copyOne_97 : decode cX9_copyOne 97 = .ok (.ifCond .eq 12, 3) := by decide +kernel
theorem dX9_copyOne_100 : decode cX9_copyOne 100 = .ok (.aload_n 0, 1) := by decide +kernel
theorem dX9_copyOne_101 : decode cX9_copyOne 101 = .ok (.getfield 79, 3) := by decide +kernel
theorem dX9_copyOne_104 : decode cX9_copyOne 104 = .ok (.iload_n 3, 1) := by decide +kernel
theorem dX9_copyOne_105 : decode cX9_copyOne 105 = .ok (.iaload, 1) := by decide +kernel
theorem dX9_copyOne_106 : decode cX9_copyOne 106 = .ok (.goto 9, 3) := by decide +kernel
theorem dX9_copyOne_109 : decode cX9_copyOne 109 = .ok (.aload_n 0, 1) := by decide +kernel
theorem dX9_copyOne_110 : decode cX9_copyOne 110 = .ok (.getfield 85, 3) := by decide +kernel
theorem dX9_copyOne_113 : decode cX9_copyOne 113 = .ok (.iload_n 3, 1) := by decide +kernel
theorem dX9_copyOne_114 : decode cX9_copyOne 114 = .ok (.iaload, 1) := by decide +kernel
theorem dX9_copyOne_115 : decode cX9_copyOne 115 = .ok (.iastore, 1) := by decide +kernel
theorem dX9_copyOne_116 : decode cX9_copyOne 116 = .ok (.aload_n 0, 1) := by decide +kernel
theorem dX9_copyOne_117 : decode cX9_copyOne 117 = .ok (.dup, 1) := by decide +kernel
theorem dX9_copyOne_118 : decode cX9_copyOne 118 = .ok (.getfield 221, 3) := by decide +kernel
theorem dX9_copyOne_121 : decode cX9_copyOne 121 = .ok (.iconst 1, 1) := by decide +kernel
theorem dX9_copyOne_122 : decode cX9_copyOne 122 = .ok (.iadd, 1) := by decide +kernel
theorem dX9_copyOne_123 : decode cX9_copyOne 123 = .ok (.putfield 221, 3) := by decide +kernel
theorem dX9_copyOne_126 : decode cX9_copyOne 126 = .ok (.return_, 1) := by decide +kernel
theorem dX9_address_0 : decode cX9_address 0 = .ok (.aload_n 0, 1) := by decide +kernel
theorem dX9_address_1 : decode cX9_address 1 = .ok (.getfield 249, 3) := by decide +kernel
theorem dX9_address_4 : decode cX9_address 4 = .ok (.aload_n 0, 1) := by decide +kernel
theorem dX9_address_5 : decode cX9_address 5 = .ok (.getfield 221, 3) := by decide +kernel
theorem dX9_address_8 : decode cX9_address 8 = .ok (.iadd, 1) := by decide +kernel
theorem dX9_address_9 : decode cX9_address 9 = .ok (.aload_n 0, 1) := by decide +kernel
theorem dX9_address_10 : decode cX9_address 10 = .ok (.getfield 257, 3) := by decide +kernel
theorem dX9_address_13 : decode cX9_address 13 = .ok (.isub, 1) := by decide +kernel
theorem dX9_address_14 : decode cX9_address 14 = .ok (.i2l, 1) := by decide +kernel
theorem dX9_address_15 : decode cX9_address 15 = .ok (.lstore_n 2, 1) := by decide +kernel
theorem dX9_address_16 : decode cX9_address 16 = .ok (.iload_n 1, 1) := by decide +kernel
theorem dX9_address_17 : decode cX9_address 17 = .ok (.aload_n 0, 1) := by decide +kernel
theorem dX9_address_18 : decode cX9_address 18 = .ok (.getfield 164, 3) := by decide +kernel
theorem dX9_address_21 : decode cX9_address 21 = .ok (.iconst 2, 1) := by decide +kernel
theorem dX9_address_22 : decode cX9_address 22 = .ok (.iadd, 1) := by decide +kernel
theorem dX9_address_23 : decode cX9_address 23 = .ok (.if_icmp .ge 73, 3) := by decide +kernel
theorem dX9_address_26 : decode cX9_address 26 = .ok (.aload_n 0, 1) := by decide +kernel
theorem dX9_address_27 : decode cX9_address 27 = .ok (.aload_n 0, 1) := by decide +kernel
theorem dX9_address_28 : decode cX9_address 28 = .ok (.getfield 275, 3) := by decide +kernel
theorem dX9_address_31 : decode cX9_address 31 = .ok (.aload_n 0, 1) := by decide +kernel
theorem dX9_address_32 : decode cX9_address 32 = .ok (.getfield 278, 3) := by decide +kernel
theorem dX9_address_35 : decode cX9_address 35 = .ok (.invokevirtual 301, 3) := by decide +kernel
theorem dX9_address_38 : decode cX9_address 38 = .ok (.lstore 6, 2) := by decide +kernel
theorem dX9_address_40 : decode cX9_address 40 = .ok (.lload 6, 2) := by decide +kernel
theorem dX9_address_42 : decode cX9_address 42 = .ok (.lconst 0, 1) := by decide +kernel
theorem dX9_address_43 : decode cX9_address 43 = .ok (.lcmp, 1) := by decide +kernel
theorem dX9_address_44 : decode cX9_address 44 = .ok (.ifCond .ge 7, 3) := by decide +kernel
theorem dX9_address_47 : decode cX9_address 47 = .ok (.ldc2_w 158, 3) := by decide +kernel
theorem dX9_address_50 : decode cX9_address 50 = .ok (.lreturn, 1) := by decide +kernel
theorem dX9_address_51 : decode cX9_address 51 = .ok (.aload_n 0, 1) := by decide +kernel
theorem dX9_address_52 : decode cX9_address 52 = .ok (.aload_n 0, 1) := by decide +kernel
theorem dX9_address_53 : decode cX9_address 53 = .ok (.getfield 284, 3) := by decide +kernel
theorem dX9_address_56 : decode cX9_address 56 = .ok (.putfield 275, 3) := by decide +kernel
theorem dX9_address_59 : decode cX9_address 59 = .ok (.iload_n 1, 1) := by decide +kernel
theorem dX9_address_60 : decode cX9_address 60 = .ok (.ifCond .ne 8, 3) := by decide +kernel
theorem dX9_address_63 : decode cX9_address 63 = .ok (.lload 6, 2) := by decide +kernel
theorem dX9_address_65 : decode cX9_address 65 = .ok (.goto 26, 3) := by decide +kernel
theorem dX9_address_68 : decode cX9_address 68 = .ok (.iload_n 1, 1) := by decide +kernel
theorem dX9_address_69 : decode cX9_address 69 = .ok (.iconst 1, 1) := by decide +kernel
theorem dX9_address_70 : decode cX9_address 70 = .ok (.if_icmp .ne 10, 3) := by decide +kernel
theorem dX9_address_73 : decode cX9_address 73 = .ok (.lload_n 2, 1) := by decide +kernel
theorem dX9_address_74 : decode cX9_address 74 = .ok (.lload 6, 2) := by decide +kernel
theorem dX9_address_76 : decode cX9_address 76 = .ok (.lsub, 1) := by decide +kernel
theorem dX9_address_77 : decode cX9_address 77 = .ok (.goto 14, 3) := by decide +kernel
theorem dX9_address_80 : decode cX9_address 80 = .ok (.aload_n 0, 1) := by decide +kernel
theorem dX9_address_81 : decode cX9_address 81 = .ok (.getfield 33, 3) := by decide +kernel
theorem dX9_address_84 : decode cX9_address 84 = .ok (.iload_n 1, 1) := by decide +kernel
theorem dX9_address_85 : decode cX9_address 85 = .ok (.iconst 2, 1) := by decide +kernel
theorem dX9_address_86 : decode cX9_address 86 = .ok (.isub, 1) := by decide +kernel
theorem dX9_address_87 : decode cX9_address 87 = .ok (.laload, 1) := by decide +kernel
theorem dX9_address_88 : decode cX9_address 88 = .ok (.lload 6, 2) := by decide +kernel
theorem dX9_address_90 : decode cX9_address 90 = .ok (.ladd, 1) := by decide +kernel
theorem dX9_address_91 : decode cX9_address 91 = .ok (.lstore 4, 2) := by decide +kernel
theorem dX9_address_93 : decode cX9_address 93 = .ok (.goto 66, 3) := by decide +kernel
theorem dX9_address_96 : decode cX9_address 96 = .ok (.aload_n 0, 1) := by decide +kernel
theorem dX9_address_97 : decode cX9_address 97 = .ok (.getfield 275, 3) := by decide +kernel
theorem dX9_address_100 : decode cX9_address 100 = .ok (.aload_n 0, 1) := by decide +kernel
theorem dX9_address_101 : decode cX9_address 101 = .ok (.getfield 278, 3) := by decide +kernel
theorem dX9_address_104 : decode cX9_address 104 = .ok (.if_icmp .lt 7, 3) := by decide +kernel
theorem dX9_address_107 : decode cX9_address 107 = .ok (.ldc2_w 158, 3) := by decide +kernel
theorem dX9_address_110 : decode cX9_address 110 = .ok (.lreturn, 1) := by decide +kernel
theorem dX9_address_111 : decode cX9_address 111 = .ok (.aload_n 0, 1) := by decide +kernel
theorem dX9_address_112 : decode cX9_address 112 = .ok (.getfield 37, 3) := by decide +kernel
theorem dX9_address_115 : decode cX9_address 115 = .ok (.sipush 256, 3) := by decide +kernel
theorem dX9_address_118 : decode cX9_address 118 = .ok (.iload_n 1, 1) := by decide +kernel
theorem dX9_address_119 : decode cX9_address 119 = .ok (.aload_n 0, 1) := by decide +kernel
theorem dX9_address_120 : decode cX9_address 120 = .ok (.getfield 164, 3) := by decide +kernel
theorem dX9_address_123 : decode cX9_address 123 = .ok (.isub, 1) := by decide +kernel
theorem dX9_address_124 : decode cX9_address 124 = .ok (.iconst 2, 1) := by decide +kernel
theorem dX9_address_125 : decode cX9_address 125 = .ok (.isub, 1) := by decide +kernel
theorem dX9_address_126 : decode cX9_address 126 = .ok (.imul, 1) := by decide +kernel
theorem dX9_address_127 : decode cX9_address 127 = .ok (.aload_n 0, 1) := by decide +kernel
theorem dX9_address_128 : decode cX9_address 128 = .ok (.getfield 7, 3) := by decide +kernel
theorem dX9_address_131 : decode cX9_address 131 = .ok (.aload_n 0, 1) := by decide +kernel
theorem dX9_address_132 : decode cX9_address 132 = .ok (.getfield 195, 3) := by decide +kernel
theorem dX9_address_135 : decode cX9_address 135 = .ok (.aload_n 0, 1) := by decide +kernel
theorem dX9_address_136 : decode cX9_address 136 = .ok (.getfield 275, 3) := by decide +kernel
theorem dX9_address_139 : decode cX9_address 139 = .ok (.iadd, 1) := by decide +kernel
theorem dX9_address_140 : decode cX9_address 140 = .ok (.baload, 1) := by decide +kernel
theorem dX9_address_141 : decode cX9_address 141 = .ok (.sipush 255, 3) := by decide +kernel
theorem dX9_address_144 : decode cX9_address 144 = .ok (.iand, 1) := by decide +kernel
theorem dX9_address_145 : decode cX9_address 145 = .ok (.iadd, 1) := by decide +kernel
theorem dX9_address_146 : decode cX9_address 146 = .ok (.laload, 1) := by decide +kernel
theorem dX9_address_147 : decode cX9_address 147 = .ok (.lstore 4, 2) := by decide +kernel
theorem dX9_address_149 : decode cX9_address 149 = .ok (.aload_n 0, 1) := by decide +kernel
theorem dX9_address_150 : decode cX9_address 150 = .ok (.dup, 1) := by decide +kernel
theorem dX9_address_151 : decode cX9_address 151 = .ok (.getfield 275, 3) := by decide +kernel
theorem dX9_address_154 : decode cX9_address 154 = .ok (.iconst 1, 1) := by decide +kernel
theorem dX9_address_155 : decode cX9_address 155 = .ok (.iadd, 1) := by decide +kernel
theorem dX9_address_156 : decode cX9_address 156 = .ok (.putfield 275, 3) := by decide +kernel
theorem dX9_address_159 : decode cX9_address 159 = .ok (.lload 4, 2) := by decide +kernel
theorem dX9_address_161 : decode cX9_address 161 = .ok (.lconst 0, 1) := by decide +kernel
theorem dX9_address_162 : decode cX9_address 162 = .ok (.lload_n 2, 1) := by decide +kernel
theorem dX9_address_163 : decode cX9_address 163 = .ok (.lconst 1, 1) := by decide +kernel
theorem dX9_address_164 : decode cX9_address 164 = .ok (.lsub, 1) := by decide +kernel
theorem dX9_address_165 : decode cX9_address 165 = .ok (.invokestatic 136, 3) := by decide +kernel
theorem dX9_address_168 : decode cX9_address 168 = .ok (.ifCond .eq 8, 3) := by decide +kernel
theorem dX9_address_171 : decode cX9_address 171 = .ok (.lload 4, 2) := by decide +kernel
theorem dX9_address_173 : decode cX9_address 173 = .ok (.goto 6, 3) := by decide +kernel
theorem dX9_address_176 : decode cX9_address 176 = .ok (.ldc2_w 158, 3) := by decide +kernel
theorem dX9_address_179 : decode cX9_address 179 = .ok (.lreturn, 1) := by decide +kernel
theorem dX9_tellRead_0 : decode cX9_tellRead 0 = .ok (.aload_n 0, 1) := by decide +kernel
theorem dX9_tellRead_1 : decode cX9_tellRead 1 = .ok (.aload_n 0, 1) := by decide +kernel
theorem dX9_tellRead_2 : decode cX9_tellRead 2 = .ok (.getfield 179, 3) := by decide +kernel
theorem dX9_tellRead_5 : decode cX9_tellRead 5 = .ok (.putfield 324, 3) := by decide +kernel
theorem dX9_tellRead_8 : decode cX9_tellRead 8 = .ok (.aload_n 0, 1) := by decide +kernel
theorem dX9_tellRead_9 : decode cX9_tellRead 9 = .ok (.aload_n 0, 1) := by decide +kernel
theorem dX9_tellRead_10 : decode cX9_tellRead 10 = .ok (.getfield 179, 3) := by decide +kernel
theorem dX9_tellRead_13 : decode cX9_tellRead 13 = .ok (.ifCond .le 10, 3) := by decide +kernel
theorem dX9_tellRead_16 : decode cX9_tellRead 16 = .ok (.aload_n 0, 1) := by decide +kernel
theorem dX9_tellRead_17 : decode cX9_tellRead 17 = .ok (.getfield 182, 3) := by decide +kernel
theorem dX9_tellRead_20 : decode cX9_tellRead 20 = .ok (.goto 4, 3) := by decide +kernel
theorem dX9_tellRead_23 : decode cX9_tellRead 23 = .ok (.iconst 0, 1) := by decide +kernel
theorem dX9_tellRead_24 : decode cX9_tellRead 24 = .ok (.putfield 327, 3) := by decide +kernel
theorem dX9_tellRead_27 : decode cX9_tellRead 27 = .ok (.aload_n 0, 1) := by decide +kernel
theorem dX9_tellRead_28 : decode cX9_tellRead 28 = .ok (.aload_n 0, 1) := by decide +kernel
theorem dX9_tellRead_29 : decode cX9_tellRead 29 = .ok (.getfield 234, 3) := by decide +kernel
theorem dX9_tellRead_32 : decode cX9_tellRead 32 = .ok (.putfield 330, 3) := by decide +kernel
theorem dX9_tellRead_35 : decode cX9_tellRead 35 = .ok (.aload_n 0, 1) := by decide +kernel
theorem dX9_tellRead_36 : decode cX9_tellRead 36 = .ok (.aload_n 0, 1) := by decide +kernel
theorem dX9_tellRead_37 : decode cX9_tellRead 37 = .ok (.getfield 173, 3) := by decide +kernel
theorem dX9_tellRead_40 : decode cX9_tellRead 40 = .ok (.putfield 333, 3) := by decide +kernel
theorem dX9_tellRead_43 : decode cX9_tellRead 43 = .ok (.bipush (-10), 2) := by decide +kernel
theorem dX9_tellRead_45 : decode cX9_tellRead 45 = .ok (.aload_n 0, 1) := by decide +kernel
theorem dX9_tellRead_46 : decode cX9_tellRead 46 = .ok (.getfield 179, 3) := by decide +kernel
theorem dX9_tellRead_49 : decode cX9_tellRead 49 = .ok (.isub, 1) := by decide +kernel
theorem dX9_tellRead_50 : decode cX9_tellRead 50 = .ok (.ireturn, 1) := by decide +kernel
theorem dX9_read_0 : decode cX9_read 0 = .ok (.aload_n 0, 1) := by decide +kernel
theorem dX9_read_1 : decode cX9_read 1 = .ok (.iconst 0, 1) := by decide +kernel
theorem dX9_read_2 : decode cX9_read 2 = .ok (.putfield 131, 3) := by decide +kernel
theorem dX9_read_5 : decode cX9_read 5 = .ok (.aload_n 0, 1) := by decide +kernel
theorem dX9_read_6 : decode cX9_read 6 = .ok (.iconst 2, 1) := by decide +kernel
theorem dX9_read_7 : decode cX9_read 7 = .ok (.iconst 1, 1) := by decide +kernel
theorem dX9_read_8 : decode cX9_read 8 = .ok (.invokevirtual 336, 3) := by decide +kernel
theorem dX9_read_11 : decode cX9_read 11 = .ok (.aload_n 0, 1) := by decide +kernel
theorem dX9_read_12 : decode cX9_read 12 = .ok (.invokevirtual 340, 3) := by decide +kernel
theorem dX9_read_15 : decode cX9_read 15 = .ok (.istore_n 1, 1) := by decide +kernel
theorem dX9_read_16 : decode cX9_read 16 = .ok (.aload_n 0, 1) := by decide +kernel
theorem dX9_read_17 : decode cX9_read 17 = .ok (.invokevirtual 343, 3) := by decide +kernel
theorem dX9_read_20 : decode cX9_read 20 = .ok (.aload_n 0, 1) := by decide +kernel
theorem dX9_read_21 : decode cX9_read 21 = .ok (.getfield 179, 3) := by decide +kernel
theorem dX9_read_24 : decode cX9_read 24 = .ok (.ifCond .le 5, 3) := by decide +kernel
theorem dX9_read_27 : decode cX9_read 27 = .ok (.iload_n 1, 1) := by decide +kernel
theorem dX9_read_28 : decode cX9_read 28 = .ok (.ireturn, 1) := by decide +kernel
theorem dX9_read_29 : decode cX9_read 29 = .ok (.aload_n 0, 1) := by decide +kernel
theorem dX9_read_30 : decode cX9_read 30 = .ok (.getfield 13, 3) := by decide +kernel
theorem dX9_read_33 : decode cX9_read 33 = .ok (.iconst 1, 1) := by decide +kernel
theorem dX9_read_34 : decode cX9_read 34 = .ok (.aload_n 0, 1) := by decide +kernel
theorem dX9_read_35 : decode cX9_read 35 = .ok (.getfield 221, 3) := by decide +kernel
theorem dX9_read_38 : decode cX9_read 38 = .ok (.iastore, 1) := by decide +kernel
theorem dX9_read_39 : decode cX9_read 39 = .ok (.iconst 0, 1) := by decide +kernel
theorem dX9_read_40 : decode cX9_read 40 = .ok (.istore_n 2, 1) := by decide +kernel
theorem dX9_read_41 : decode cX9_read 41 = .ok (.iload_n 2, 1) := by decide +kernel
theorem dX9_read_42 : decode cX9_read 42 = .ok (.aload_n 0, 1) := by decide +kernel
theorem dX9_read_43 : decode cX9_read 43 = .ok (.getfield 221, 3) := by decide +kernel
theorem dX9_read_46 : decode cX9_read 46 = .ok (.if_icmp .ge 25, 3) := by decide +kernel
theorem dX9_read_49 : decode cX9_read 49 = .ok (.aload_n 0, 1) := by decide +kernel
theorem dX9_read_50 : decode cX9_read 50 = .ok (.getfield 7, 3) := by decide +kernel
theorem dX9_read_53 : decode cX9_read 53 = .ok (.sipush 8000, 3) := by decide +kernel
theorem dX9_read_56 : decode cX9_read 56 = .ok (.iload_n 2, 1) := by decide +kernel
theorem dX9_read_57 : decode cX9_read 57 = .ok (.iadd, 1) := by decide +kernel
theorem dX9_read_58 : decode cX9_read 58 = .ok (.aload_n 0, 1) := by decide +kernel
theorem dX9_read_59 : decode cX9_read 59 = .ok (.getfield 82, 3) := by decide +kernel
theorem dX9_read_62 : decode cX9_read 62 = .ok (.iload_n 2, 1) := by decide +kernel
theorem dX9_read_63 : decode cX9_read 63 = .ok (.baload, 1) := by decide +kernel
theorem dX9_read_64 : decode cX9_read 64 = .ok (.bastore, 1) := by decide +kernel
theorem dX9_read_65 : decode cX9_read 65 = .ok (.iinc 2 1, 3) := by decide +kernel
theorem dX9_read_68 : decode cX9_read 68 = .ok (.goto (-27), 3) := by decide +kernel
theorem dX9_read_71 : decode cX9_read 71 = .ok (.aload_n 0, 1) := by decide +kernel
theorem dX9_read_72 : decode cX9_read 72 = .ok (.getfield 221, 3) := by decide +kernel
theorem dX9_read_75 : decode cX9_read 75 = .ok (.ireturn, 1) := by decide +kernel
theorem dX9_numberSize_0 : decode cX9_numberSize 0 = .ok (.iconst 1, 1) := by decide +kernel
theorem dX9_numberSize_1 : decode cX9_numberSize 1 = .ok (.istore_n 2, 1) := by decide +kernel
theorem dX9_numberSize_2 : decode cX9_numberSize 2 = .ok (.lload_n 0, 1) := by decide +kernel
theorem dX9_numberSize_3 : decode cX9_numberSize 3 = .ok (.bipush 7, 2) := by decide +kernel
theorem dX9_numberSize_5 : decode cX9_numberSize 5 = .ok (.iload_n 2, 1) := by decide +kernel
theorem dX9_numberSize_6 : decode cX9_numberSize 6 = .ok (.imul, 1) := by decide +kernel
theorem dX9_numberSize_7 : decode cX9_numberSize 7 = .ok (.lshr, 1) := by decide +kernel
theorem dX9_numberSize_8 : decode cX9_numberSize 8 = .ok (.lconst 0, 1) := by decide +kernel
theorem dX9_numberSize_9 : decode cX9_numberSize 9 = .ok (.lcmp, 1) := by decide +kernel
theorem dX9_numberSize_10 : decode cX9_numberSize 10 = .ok (.ifCond .le 9, 3) := by decide +kernel
theorem dX9_numberSize_13 : decode cX9_numberSize 13 = .ok (.iinc 2 1, 3) := by decide +kernel
theorem dX9_numberSize_16 : decode cX9_numberSize 16 = .ok (.goto (-14), 3) := by decide +kernel
theorem dX9_numberSize_19 : decode cX9_numberSize 19 = .ok (.iload_n 2, 1) := by decide +kernel
theorem dX9_numberSize_20 : decode cX9_numberSize 20 = .ok (.ireturn, 1) := by decide +kernel
theorem dX9_put_0 : decode cX9_put 0 = .ok (.aload_n 0, 1) := by decide +kernel
theorem dX9_put_1 : decode cX9_put 1 = .ok (.getfield 346, 3) := by decide +kernel
theorem dX9_put_4 : decode cX9_put 4 = .ok (.sipush 30000, 3) := by decide +kernel
theorem dX9_put_7 : decode cX9_put 7 = .ok (.if_icmp .ge 14, 3) := by decide +kernel
theorem dX9_put_10 : decode cX9_put 10 = .ok (.aload_n 0, 1) := by decide +kernel
theorem dX9_put_11 : decode cX9_put 11 = .ok (.getfield 88, 3) := by decide +kernel
theorem dX9_put_14 : decode cX9_put 14 = .ok (.aload_n 0, 1) := by decide +kernel
theorem dX9_put_15 : decode cX9_put 15 = .ok (.getfield 346, 3) := by decide +kernel
theorem dX9_put_18 : decode cX9_put 18 = .ok (.iload_n 1, 1) := by decide +kernel
theorem dX9_put_19 : decode cX9_put 19 = .ok (.i2b, 1) := by decide +kernel
theorem dX9_put_20 : decode cX9_put 20 = .ok (.bastore, 1) := by decide +kernel
theorem dX9_put_21 : decode cX9_put 21 = .ok (.aload_n 0, 1) := by decide +kernel
theorem dX9_put_22 : decode cX9_put 22 = .ok (.dup, 1) := by decide +kernel
theorem dX9_put_23 : decode cX9_put 23 = .ok (.getfield 346, 3) := by decide +kernel
theorem dX9_put_26 : decode cX9_put 26 = .ok (.iconst 1, 1) := by decide +kernel
theorem dX9_put_27 : decode cX9_put 27 = .ok (.iadd, 1) := by decide +kernel
theorem dX9_put_28 : decode cX9_put 28 = .ok (.putfield 346, 3) := by decide +kernel
theorem dX9_put_31 : decode cX9_put 31 = .ok (.return_, 1) := by decide +kernel
theorem dX9_putNumber_0 : decode cX9_putNumber 0 = .ok (.lload_n 1, 1) := by decide +kernel
theorem dX9_putNumber_1 : decode cX9_putNumber 1 = .ok (.invokestatic 349, 3) := by decide +kernel
theorem dX9_putNumber_4 : decode cX9_putNumber 4 = .ok (.iconst 1, 1) := by decide +kernel
theorem dX9_putNumber_5 : decode cX9_putNumber 5 = .ok (.isub, 1) := by decide +kernel
theorem dX9_putNumber_6 : decode cX9_putNumber 6 = .ok (.istore_n 3, 1) := by decide +kernel
theorem dX9_putNumber_7 : decode cX9_putNumber 7 = .ok (.iload_n 3, 1) := by decide +kernel
theorem dX9_putNumber_8 : decode cX9_putNumber 8 = .ok (.ifCond .lt 35, 3) := by decide +kernel
theorem dX9_putNumber_11 : decode cX9_putNumber 11 = .ok (.aload_n 0, 1) := by decide +kernel
theorem dX9_putNumber_12 : decode cX9_putNumber 12 = .ok (.lload_n 1, 1) := by decide +kernel
theorem dX9_putNumber_13 : decode cX9_putNumber 13 = .ok (.bipush 7, 2) := by decide +kernel
theorem dX9_putNumber_15 : decode cX9_putNumber 15 = .ok (.iload_n 3, 1) := by decide +kernel
theorem dX9_putNumber_16 : decode cX9_putNumber 16 = .ok (.imul, 1) := by decide +kernel
theorem dX9_putNumber_17 : decode cX9_putNumber 17 = .ok (.lshr, 1) := by decide +kernel
theorem dX9_putNumber_18 : decode cX9_putNumber 18 = .ok (.l2i, 1) := by decide +kernel
theorem dX9_putNumber_19 : decode cX9_putNumber 19 = .ok (.bipush 127, 2) := by decide +kernel
theorem dX9_putNumber_21 : decode cX9_putNumber 21 = .ok (.iand, 1) := by decide +kernel
theorem dX9_putNumber_22 : decode cX9_putNumber 22 = .ok (.iload_n 3, 1) := by decide +kernel
theorem dX9_putNumber_23 : decode cX9_putNumber 23 = .ok (.ifCond .le 9, 3) := by decide +kernel
theorem dX9_putNumber_26 : decode cX9_putNumber 26 = .ok (.sipush 128, 3) := by decide +kernel
theorem dX9_putNumber_29 : decode cX9_putNumber 29 = .ok (.goto 4, 3) := by decide +kernel
theorem dX9_putNumber_32 : decode cX9_putNumber 32 = .ok (.iconst 0, 1) := by decide +kernel
theorem dX9_putNumber_33 : decode cX9_putNumber 33 = .ok (.ior, 1) := by decide +kernel
theorem dX9_putNumber_34 : decode cX9_putNumber 34 = .ok (.invokevirtual 353, 3) := by decide +kernel
theorem dX9_putNumber_37 : decode cX9_putNumber 37 = .ok (.iinc 3 (-1), 3) := by decide +kernel
theorem dX9_putNumber_40 : decode cX9_putNumber 40 = .ok (.goto (-33), 3) := by decide +kernel
theorem dX9_putNumber_43 : decode cX9_putNumber 43 = .ok (.return_, 1) := by decide +kernel
theorem dX9_instruct_0 : decode cX9_instruct 0 = .ok (.iload_n 1, 1) := by decide +kernel
theorem dX9_instruct_1 : decode cX9_instruct 1 = .ok (.iconst 1, 1) := by decide +kernel
theorem dX9_instruct_2 : decode cX9_instruct 2 = .ok (.if_icmp .ne 41, 3) := by decide +kernel
theorem dX9_instruct_5 : decode cX9_instruct 5 = .ok (.aload_n 0, 1) := by decide +kernel
theorem dX9_instruct_6 : decode cX9_instruct 6 = .ok (.getfield 356, 3) := by decide +kernel
theorem dX9_instruct_9 : decode cX9_instruct 9 = .ok (.ifCond .le 34, 3) := by decide +kernel
theorem dX9_instruct_12 : decode cX9_instruct 12 = .ok (.aload_n 0, 1) := by decide +kernel
theorem dX9_instruct_13 : decode cX9_instruct 13 = .ok (.getfield 103, 3) := by decide +kernel
theorem dX9_instruct_16 : decode cX9_instruct 16 = .ok (.aload_n 0, 1) := by decide +kernel
theorem dX9_instruct_17 : decode cX9_instruct 17 = .ok (.getfield 356, 3) := by decide +kernel
theorem dX9_instruct_20 : decode cX9_instruct 20 = .ok (.iconst 1, 1) := by decide +kernel
theorem dX9_instruct_21 : decode cX9_instruct 21 = .ok (.isub, 1) := by decide +kernel
theorem dX9_instruct_22 : decode cX9_instruct 22 = .ok (.iaload, 1) := by decide +kernel
theorem dX9_instruct_23 : decode cX9_instruct 23 = .ok (.iconst 1, 1) := by decide +kernel
theorem dX9_instruct_24 : decode cX9_instruct 24 = .ok (.if_icmp .ne 19, 3) := by decide +kernel
theorem dX9_instruct_27 : decode cX9_instruct 27 = .ok (.aload_n 0, 1) := by decide +kernel
theorem dX9_instruct_28 : decode cX9_instruct 28 = .ok (.getfield 106, 3) := by decide +kernel
theorem dX9_instruct_31 : decode cX9_instruct 31 = .ok (.aload_n 0, 1) := by decide +kernel
theorem dX9_instruct_32 : decode cX9_instruct 32 = .ok (.getfield 356, 3) := by decide +kernel
theorem dX9_instruct_35 : decode cX9_instruct 35 = .ok (.iconst 1, 1) := by decide +kernel
theorem dX9_instruct_36 : decode cX9_instruct 36 = .ok (.isub, 1) := by decide +kernel
theorem dX9_instruct_37 : decode cX9_instruct 37 = .ok (.dup2, 1) := by decide +kernel
theorem dX9_instruct_38 : decode cX9_instruct 38 = .ok (.iaload, 1) := by decide +kernel
theorem dX9_instruct_39 : decode cX9_instruct 39 = .ok (.iload_n 2, 1) := by decide +kernel
theorem dX9_instruct_40 : decode cX9_instruct 40 = .ok (.iadd, 1) := by decide +kernel
theorem dX9_instruct_41 : decode cX9_instruct 41 = .ok (.iastore, 1) := by decide +kernel
theorem dX9_instruct_42 : decode cX9_instruct 42 = .ok (.return_, 1) := by decide +kernel
theorem dX9_instruct_43 : decode cX9_instruct 43 = .ok (.aload_n 0, 1) := by decide +kernel
theorem dX9_instruct_44 : decode cX9_instruct 44 = .ok (.getfield 103, 3) := by decide +kernel
theorem dX9_instruct_47 : decode cX9_instruct 47 = .ok (.aload_n 0, 1) := by decide +kernel
theorem dX9_instruct_48 : decode cX9_instruct 48 = .ok (.getfield 356, 3) := by decide +kernel
theorem dX9_instruct_51 : decode cX9_instruct 51 = .ok (.iload_n 1, 1) := by decide +kernel
theorem dX9_instruct_52 : decode cX9_instruct 52 = .ok (.iastore, 1) := by decide +kernel
theorem dX9_instruct_53 : decode cX9_instruct 53 = .ok (.aload_n 0, 1) := by decide +kernel
theorem dX9_instruct_54 : decode cX9_instruct 54 = .ok (.getfield 106, 3) := by decide +kernel
theorem dX9_instruct_57 : decode cX9_instruct 57 = .ok (.aload_n 0, 1) := by decide +kernel
theorem dX9_instruct_58 : decode cX9_instruct 58 = .ok (.getfield 356, 3) := by decide +kernel
theorem dX9_instruct_61 : decode cX9_instruct 61 = .ok (.iload_n 2, 1) := by decide +kernel
theorem dX9_instruct_62 : decode cX9_instruct 62 = .ok (.iastore, 1) := by decide +kernel
theorem dX9_instruct_63 : decode cX9_instruct 63 = .ok (.aload_n 0, 1) := by decide +kernel
theorem dX9_instruct_64 : decode cX9_instruct 64 = .ok (.getfield 109, 3) := by decide +kernel
theorem dX9_instruct_67 : decode cX9_instruct 67 = .ok (.aload_n 0, 1) := by decide +kernel
theorem dX9_instruct_68 : decode cX9_instruct 68 = .ok (.getfield 356, 3) := by decide +kernel
theorem dX9_instruct_71 : decode cX9_instruct 71 = .ok (.iload_n 3, 1) := by decide +kernel
theorem dX9_instruct_72 : decode cX9_instruct 72 = .ok (.iastore, 1) := by decide +kernel
theorem dX9_instruct_73 : decode cX9_instruct 73 = .ok (.aload_n 0, 1) := by decide +kernel
theorem dX9_instruct_74 : decode cX9_instruct 74 = .ok (.getfield 112, 3) := by decide +kernel
theorem dX9_instruct_77 : decode cX9_instruct 77 = .ok (.aload_n 0, 1) := by decide +kernel
theorem dX9_instruct_78 : decode cX9_instruct 78 = .ok (.getfield 356, 3) := by decide +kernel
theorem dX9_instruct_81 : decode cX9_instruct 81 = .ok (.iload 4, 2) := by decide +kernel
theorem dX9_instruct_83 : decode cX9_instruct 83 = .ok (.iastore, 1) := by decide +kernel
theorem dX9_instruct_84 : decode cX9_instruct 84 = .ok (.aload_n 0, 1) := by decide +kernel
theorem dX9_instruct_85 : decode cX9_instruct 85 = .ok (.getfield 115, 3) := by decide +kernel
theorem dX9_instruct_88 : decode cX9_instruct 88 = .ok (.aload_n 0, 1) := by decide +kernel
theorem dX9_instruct_89 : decode cX9_instruct 89 = .ok (.getfield 356, 3) := by decide +kernel
theorem dX9_instruct_92 : decode cX9_instruct 92 = .ok (.iconst 0, 1) := by decide +kernel
theorem dX9_instruct_93 : decode cX9_instruct 93 = .ok (.iastore, 1) := by decide +kernel
theorem dX9_instruct_94 : decode cX9_instruct 94 = .ok (.aload_n 0, 1) := by decide +kernel
theorem dX9_instruct_95 : decode cX9_instruct 95 = .ok (.dup, 1) := by decide +kernel
theorem dX9_instruct_96 : decode cX9_instruct 96 = .ok (.getfield 356, 3) := by decide +kernel
theorem dX9_instruct_99 : decode cX9_instruct 99 = .ok (.iconst 1, 1) := by decide +kernel
theorem dX9_instruct_100 : decode cX9_instruct 100 = .ok (.iadd, 1) := by decide +kernel
theorem dX9_instruct_101 : decode cX9_instruct 101 = .ok (.putfield 356, 3) := by decide +kernel
theorem dX9_instruct_104 : decode cX9_instruct 104 = .ok (.return_, 1) := by decide +kernel
theorem dX9_match_0 : decode cX9_match 0 = .ok (.iconst 0, 1) := by decide +kernel
theorem dX9_match_1 : decode cX9_match 1 = .ok (.istore_n 2, 1) := by decide +kernel
theorem dX9_match_2 : decode cX9_match 2 = .ok (.aload_n 0, 1) := by decide +kernel
theorem dX9_match_3 : decode cX9_match 3 = .ok (.iconst 0, 1) := by decide +kernel
theorem dX9_match_4 : decode cX9_match 4 = .ok (.putfield 359, 3) := by decide +kernel
theorem dX9_match_7 : decode cX9_match 7 = .ok (.aload_n 0, 1) := by decide +kernel
theorem dX9_match_8 : decode cX9_match 8 = .ok (.getfield 362, 3) := by decide +kernel
theorem dX9_match_11 : decode cX9_match 11 = .ok (.iload_n 1, 1) := by decide +kernel
theorem dX9_match_12 : decode cX9_match 12 = .ok (.isub, 1) := by decide +kernel
theorem dX9_match_13 : decode cX9_match 13 = .ok (.istore_n 3, 1) := by decide +kernel
theorem dX9_match_14 : decode cX9_match 14 = .ok (.iconst 0, 1) := by decide +kernel
theorem dX9_match_15 : decode cX9_match 15 = .ok (.istore 4, 2) := by decide +kernel
theorem dX9_match_17 : decode cX9_match 17 = .ok (.iload 4, 2) := by decide +kernel
theorem dX9_match_19 : decode cX9_match 19 = .ok (.iload_n 1, 1) := by decide +kernel
theorem dX9_match_20 : decode cX9_match 20 = .ok (.if_icmp .ge 89, 3) := by decide +kernel
theorem dX9_match_23 : decode cX9_match 23 = .ok (.iload_n 2, 1) := by decide +kernel
theorem dX9_match_24 : decode cX9_match 24 = .ok (.iload_n 3, 1) := by decide +kernel
theorem dX9_match_25 : decode cX9_match 25 = .ok (.if_icmp .ge 84, 3) := by decide +kernel
theorem dX9_match_28 : decode cX9_match 28 = .ok (.aload_n 0, 1) := by decide +kernel
theorem dX9_match_29 : decode cX9_match 29 = .ok (.getfield 100, 3) := by decide +kernel
theorem dX9_match_32 : decode cX9_match 32 = .ok (.iload 4, 2) := by decide +kernel
theorem dX9_match_34 : decode cX9_match 34 = .ok (.iload_n 2, 1) := by decide +kernel
theorem dX9_match_35 : decode cX9_match 35 = .ok (.iadd, 1) := by decide +kernel
theorem dX9_match_36 : decode cX9_match 36 = .ok (.baload, 1) := by decide +kernel
theorem dX9_match_37 : decode cX9_match 37 = .ok (.aload_n 0, 1) := by decide +kernel
theorem dX9_match_38 : decode cX9_match 38 = .ok (.getfield 100, 3) := by decide +kernel
theorem dX9_match_41 : decode cX9_match 41 = .ok (.iload_n 1, 1) := by decide +kernel
theorem dX9_match_42 : decode cX9_match 42 = .ok (.iload_n 2, 1) := by decide +kernel
theorem dX9_match_43 : decode cX9_match 43 = .ok (.iadd, 1) := by decide +kernel
theorem dX9_match_44 : decode cX9_match 44 = .ok (.baload, 1) := by decide +kernel
theorem dX9_match_45 : decode cX9_match 45 = .ok (.if_icmp .eq 6, 3) := by decide +kernel
theorem dX9_match_48 : decode cX9_match 48 = .ok (.goto 55, 3) := by decide +kernel
theorem dX9_match_51 : decode cX9_match 51 = .ok (.iconst 0, 1) := by decide +kernel
theorem dX9_match_52 : decode cX9_match 52 = .ok (.istore 5, 2) := by decide +kernel
theorem dX9_match_54 : decode cX9_match 54 = .ok (.iload 5, 2) := by decide +kernel
theorem dX9_match_56 : decode cX9_match 56 = .ok (.iload_n 3, 1) := by decide +kernel
theorem dX9_match_57 : decode cX9_match 57 = .ok (.if_icmp .ge 31, 3) := by decide +kernel
theorem dX9_match_60 : decode cX9_match 60 = .ok (.aload_n 0, 1) := by decide +kernel
theorem dX9_match_61 : decode cX9_match 61 = .ok (.getfield 100, 3) := by decide +kernel
theorem dX9_match_64 : decode cX9_match 64 = .ok (.iload 4, 2) := by decide +kernel
theorem dX9_match_66 : decode cX9_match 66 = .ok (.iload 5, 2) := by decide +kernel
theorem dX9_match_68 : decode cX9_match 68 = .ok (.iadd, 1) := by decide +kernel
theorem dX9_match_69 : decode cX9_match 69 = .ok (.baload, 1) := by decide +kernel
theorem dX9_match_70 : decode cX9_match 70 = .ok (.aload_n 0, 1) := by decide +kernel
theorem dX9_match_71 : decode cX9_match 71 = .ok (.getfield 100, 3) := by decide +kernel
theorem dX9_match_74 : decode cX9_match 74 = .ok (.iload_n 1, 1) := by decide +kernel
theorem dX9_match_75 : decode cX9_match 75 = .ok (.iload 5, 2) := by decide +kernel
theorem dX9_match_77 : decode cX9_match 77 = .ok (.iadd, 1) := by decide +kernel
theorem dX9_match_78 : decode cX9_match 78 = .ok (.baload, 1) := by decide +kernel
theorem dX9_match_79 : decode cX9_match 79 = .ok (.if_icmp .ne 9, 3) := by decide +kernel
theorem dX9_match_82 : decode cX9_match 82 = .ok (.iinc 5 1, 3) := by decide +kernel
theorem dX9_match_85 : decode cX9_match 85 = .ok (.goto (-31), 3) := by decide +kernel
theorem dX9_match_88 : decode cX9_match 88 = .ok (.iload 5, 2) := by decide +kernel
theorem dX9_match_90 : decode cX9_match 90 = .ok (.iload_n 2, 1) := by decide +kernel
theorem dX9_match_91 : decode cX9_match 91 = .ok (.if_icmp .le 12, 3) := by decide +kernel
theorem dX9_match_94 : decode cX9_match 94 = .ok (.iload 5, 2) := by decide +kernel
theorem dX9_match_96 : decode cX9_match 96 = .ok (.istore_n 2, 1) := by decide +kernel
theorem dX9_match_97 : decode cX9_match 97 = .ok (.aload_n 0, 1) := by decide +kernel
theorem dX9_match_98 : decode cX9_match 98 = .ok (.iload 4, 2) := by decide +kernel
theorem dX9_match_100 : decode cX9_match 100 = .ok (.putfield 359, 3) := by decide +kernel
theorem dX9_match_103 : decode cX9_match 103 = .ok (.iinc 4 1, 3) := by decide +kernel
theorem dX9_match_106 : decode cX9_match 106 = .ok (.goto (-89), 3) := by decide +kernel
theorem dX9_match_109 : decode cX9_match 109 = .ok (.iload_n 2, 1) := by decide +kernel
theorem dX9_match_110 : decode cX9_match 110 = .ok (.ireturn, 1) := by decide +kernel
theorem dX9_choose_0 : decode cX9_choose 0 = .ok (.aload_n 0, 1) := by decide +kernel
theorem dX9_choose_1 : decode cX9_choose 1 = .ok (.iconst 0, 1) := by decide +kernel
theorem dX9_choose_2 : decode cX9_choose 2 = .ok (.putfield 356, 3) := by decide +kernel
theorem dX9_choose_5 : decode cX9_choose 5 = .ok (.aload_n 0, 1) := by decide +kernel
theorem dX9_choose_6 : decode cX9_choose 6 = .ok (.getfield 365, 3) := by decide +kernel
theorem dX9_choose_9 : decode cX9_choose 9 = .ok (.istore_n 2, 1) := by decide +kernel
theorem dX9_choose_10 : decode cX9_choose 10 = .ok (.iload_n 2, 1) := by decide +kernel
theorem dX9_choose_11 : decode cX9_choose 11 = .ok (.aload_n 0, 1) := by decide +kernel
theorem dX9_choose_12 : decode cX9_choose 12 = .ok (.getfield 362, 3) := by decide +kernel
theorem dX9_choose_15 : decode cX9_choose 15 = .ok (.if_icmp .ge 163, 3) := by decide +kernel
theorem dX9_choose_18 : decode cX9_choose 18 = .ok (.iload_n 1, 1) := by decide +kernel
theorem dX9_choose_19 : decode cX9_choose 19 = .ok (.ifCond .ne 17, 3) := by decide +kernel
theorem dX9_choose_22 : decode cX9_choose 22 = .ok (.aload_n 0, 1) := by decide +kernel
theorem dX9_choose_23 : decode cX9_choose 23 = .ok (.iconst 1, 1) := by decide +kernel
theorem dX9_choose_24 : decode cX9_choose 24 = .ok (.aload_n 0, 1) := by decide +kernel
theorem dX9_choose_25 : decode cX9_choose 25 = .ok (.getfield 362, 3) := by decide +kernel
theorem dX9_choose_28 : decode cX9_choose 28 = .ok (.iload_n 2, 1) := by decide +kernel
theorem dX9_choose_29 : decode cX9_choose 29 = .ok (.isub, 1) := by decide +kernel
theorem dX9_choose_30 : decode cX9_choose 30 = .ok (.iload_n 2, 1) := by decide +kernel
theorem dX9_choose_31 : decode cX9_choose 31 = .ok (.iconst 0, 1) := by decide +kernel
theorem dX9_choose_32 : decode cX9_choose 32 = .ok (.invokevirtual 368, 3) := by decide +kernel
theorem dX9_choose_35 : decode cX9_choose 35 = .ok (.return_, 1) := by decide +kernel
theorem dX9_choose_36 : decode cX9_choose 36 = .ok (.iconst 1, 1) := by decide +kernel
theorem dX9_choose_37 : decode cX9_choose 37 = .ok (.istore_n 3, 1) := by decide +kernel
theorem dX9_choose_38 : decode cX9_choose 38 = .ok (.iload_n 2, 1) := by decide +kernel
theorem dX9_choose_39 : decode cX9_choose 39 = .ok (.iload_n 3, 1) := by decide +kernel
theorem dX9_choose_40 : decode cX9_choose 40 = .ok (.iadd, 1) := by decide +kernel
theorem dX9_choose_41 : decode cX9_choose 41 = .ok (.aload_n 0, 1) := by decide +kernel
theorem dX9_choose_42 : decode cX9_choose 42 = .ok (.getfield 362, 3) := by decide +kernel
theorem dX9_choose_45 : decode cX9_choose 45 = .ok (.if_icmp .ge 26, 3) := by decide +kernel
theorem dX9_choose_48 : decode cX9_choose 48 = .ok (.aload_n 0, 1) := by decide +kernel
theorem dX9_choose_49 : decode cX9_choose 49 = .ok (.getfield 100, 3) := by decide +kernel
theorem dX9_choose_52 : decode cX9_choose 52 = .ok (.iload_n 2, 1) := by decide +kernel
theorem dX9_choose_53 : decode cX9_choose 53 = .ok (.iload_n 3, 1) := by decide +kernel
theorem dX9_choose_54 : decode cX9_choose 54 = .ok (.iadd, 1) := by decide +kernel
theorem dX9_choose_55 : decode cX9_choose 55 = .ok (.baload, 1) := by decide +kernel
theorem dX9_choose_56 : decode cX9_choose 56 = .ok (.aload_n 0, 1) := by decide +kernel
theorem dX9_choose_57 : decode cX9_choose 57 = .ok (.getfield 100, 3) := by decide +kernel
theorem dX9_choose_60 : decode cX9_choose 60 = .ok (.iload_n 2, 1) := by decide +kernel
theorem dX9_choose_61 : decode cX9_choose 61 = .ok (.baload, 1) := by decide +kernel
theorem dX9_choose_62 : decode cX9_choose 62 = .ok (.if_icmp .ne 9, 3) := by decide +kernel
theorem dX9_choose_65 : decode cX9_choose 65 = .ok (.iinc 3 1, 3) := by decide +kernel
theorem dX9_choose_68 : decode cX9_choose 68 = .ok (.goto (-30), 3) := by decide +kernel
theorem dX9_choose_71 : decode cX9_choose 71 = .ok (.aload_n 0, 1) := by decide +kernel
theorem dX9_choose_72 : decode cX9_choose 72 = .ok (.iload_n 2, 1) := by decide +kernel
theorem dX9_choose_73 : decode cX9_choose 73 = .ok (.invokevirtual 372, 3) := by decide +kernel
theorem dX9_choose_76 : decode cX9_choose 76 = .ok (.istore 4, 2) := by decide +kernel
theorem dX9_choose_78 : decode cX9_choose 78 = .ok (.aload_n 0, 1) := by decide +kernel
theorem dX9_choose_79 : decode cX9_choose 79 = .ok (.getfield 359, 3) := by decide +kernel
theorem dX9_choose_82 : decode cX9_choose 82 = .ok (.istore 5, 2) := by decide +kernel
theorem dX9_choose_84 : decode cX9_choose 84 = .ok (.iload_n 3, 1) := by decide +kernel
theorem dX9_choose_85 : decode cX9_choose 85 = .ok (.bipush 6, 2) := by decide +kernel
theorem dX9_choose_87 : decode cX9_choose 87 = .ok (.if_icmp .lt 24, 3) := by decide +kernel
theorem dX9_choose_90 : decode cX9_choose 90 = .ok (.iload_n 3, 1) := by decide +kernel
theorem dX9_choose_91 : decode cX9_choose 91 = .ok (.iload 4, 2) := by decide +kernel
theorem dX9_choose_93 : decode cX9_choose 93 = .ok (.if_icmp .lt 18, 3) := by decide +kernel
theorem dX9_choose_96 : decode cX9_choose 96 = .ok (.aload_n 0, 1) := by decide +kernel
theorem dX9_choose_97 : decode cX9_choose 97 = .ok (.iconst 2, 1) := by decide +kernel
theorem dX9_choose_98 : decode cX9_choose 98 = .ok (.iload_n 3, 1) := by decide +kernel
theorem dX9_choose_99 : decode cX9_choose 99 = .ok (.iload_n 2, 1) := by decide +kernel
theorem dX9_choose_100 : decode cX9_choose 100 = .ok (.iconst 0, 1) := by decide +kernel
theorem dX9_choose_101 : decode cX9_choose 101 = .ok (.invokevirtual 368, 3) := by decide +kernel
theorem dX9_choose_104 : decode cX9_choose 104 = .ok (.iload_n 2, 1) := by decide +kernel
theorem dX9_choose_105 : decode cX9_choose 105 = .ok (.iload_n 3, 1) := by decide +kernel
theorem dX9_choose_106 : decode cX9_choose 106 = .ok (.iadd, 1) := by decide +kernel
theorem dX9_choose_107 : decode cX9_choose 107 = .ok (.istore_n 2, 1) := by decide +kernel
theorem dX9_choose_108 : decode cX9_choose 108 = .ok (.goto 67, 3) := by decide +kernel
theorem dX9_choose_111 : decode cX9_choose 111 = .ok (.iload 4, 2) := by decide +kernel
theorem dX9_choose_113 : decode cX9_choose 113 = .ok (.iconst 4, 1) := by decide +kernel
theorem dX9_choose_114 : decode cX9_choose 114 = .ok (.if_icmp .lt 32, 3) := by decide +kernel
theorem dX9_choose_117 : decode cX9_choose 117 = .ok (.iload_n 1, 1) := by decide +kernel
theorem dX9_choose_118 : decode cX9_choose 118 = .ok (.iconst 2, 1) := by decide +kernel
theorem dX9_choose_119 : decode cX9_choose 119 = .ok (.if_icmp .ne 41, 3) := by decide +kernel
theorem dX9_choose_122 : decode cX9_choose 122 = .ok (.iload_n 2, 1) := by decide +kernel
theorem dX9_choose_123 : decode cX9_choose 123 = .ok (.iconst 1, 1) := by decide +kernel
theorem dX9_choose_124 : decode cX9_choose 124 = .ok (.iadd, 1) := by decide +kernel
theorem dX9_choose_125 : decode cX9_choose 125 = .ok (.aload_n 0, 1) := by decide +kernel
theorem dX9_choose_126 : decode cX9_choose 126 = .ok (.getfield 362, 3) := by decide +kernel
theorem dX9_choose_129 : decode cX9_choose 129 = .ok (.if_icmp .ge 31, 3) := by decide +kernel
theorem dX9_choose_132 : decode cX9_choose 132 = .ok (.aload_n 0, 1) := by decide +kernel
theorem dX9_choose_133 : decode cX9_choose 133 = .ok (.iload_n 2, 1) := by decide +kernel
theorem dX9_choose_134 : decode cX9_choose 134 = .ok (.iconst 1, 1) := by decide +kernel
theorem dX9_choose_135 : decode cX9_choose 135 = .ok (.iadd, 1) := by decide +kernel
theorem dX9_choose_136 : decode cX9_choose 136 = .ok (.invokevirtual 372, 3) := by decide +kernel
theorem dX9_choose_139 : decode cX9_choose 139 = .ok (.iload 4, 2) := by decide +kernel
theorem dX9_choose_141 : decode cX9_choose 141 = .ok (.iconst 2, 1) := by decide +kernel
theorem dX9_choose_142 : decode cX9_choose 142 = .ok (.iadd, 1) := by decide +kernel
theorem dX9_choose_143 : decode cX9_choose 143 = .ok (.if_icmp .lt 17, 3) := by decide +kernel
theorem dX9_choose_146 : decode cX9_choose 146 = .ok (.aload_n 0, 1) := by decide +kernel
theorem dX9_choose_147 : decode cX9_choose 147 = .ok (.iconst 1, 1) := by decide +kernel
theorem dX9_choose_148 : decode cX9_choose 148 = .ok (.iconst 1, 1) := by decide +kernel
theorem dX9_choose_149 : decode cX9_choose 149 = .ok (.iload_n 2, 1) := by decide +kernel
theorem dX9_choose_150 : decode cX9_choose 150 = .ok (.iconst 0, 1) := by decide +kernel
theorem dX9_choose_151 : decode cX9_choose 151 = .ok (.invokevirtual 368, 3) := by decide +kernel
theorem dX9_choose_154 : decode cX9_choose 154 = .ok (.iinc 2 1, 3) := by decide +kernel
theorem dX9_choose_157 : decode cX9_choose 157 = .ok (.goto 18, 3) := by decide +kernel
theorem dX9_choose_160 : decode cX9_choose 160 = .ok (.aload_n 0, 1) := by decide +kernel
theorem dX9_choose_161 : decode cX9_choose 161 = .ok (.iconst 3, 1) := by decide +kernel
theorem dX9_choose_162 : decode cX9_choose 162 = .ok (.iload 4, 2) := by decide +kernel
theorem dX9_choose_164 : decode cX9_choose 164 = .ok (.iload_n 2, 1) := by decide +kernel
theorem dX9_choose_165 : decode cX9_choose 165 = .ok (.iload 5, 2) := by decide +kernel
theorem dX9_choose_167 : decode cX9_choose 167 = .ok (.invokevirtual 368, 3) := by decide +kernel
theorem dX9_choose_170 : decode cX9_choose 170 = .ok (.iload_n 2, 1) := by decide +kernel
theorem dX9_choose_171 : decode cX9_choose 171 = .ok (.iload 4, 2) := by decide +kernel
theorem dX9_choose_173 : decode cX9_choose 173 = .ok (.iadd, 1) := by decide +kernel
theorem dX9_choose_174 : decode cX9_choose 174 = .ok (.istore_n 2, 1) := by decide +kernel
theorem dX9_choose_175 : decode cX9_choose 175 = .ok (.goto (-165), 3) := by decide +kernel
theorem dX9_choose_178 : decode cX9_choose 178 = .ok (.return_, 1) := by decide +kernel
theorem dX9_addressNumber_0 : decode cX9_addressNumber 0 = .ok (.lload_n 1, 1) := by decide +kernel
theorem dX9_addressNumber_1 : decode cX9_addressNumber 1 = .ok (.invokestatic 349, 3) := by decide +kernel
theorem dX9_addressNumber_4 : decode cX9_addressNumber 4 = .ok (.iconst 1, 1) := by decide +kernel
theorem dX9_addressNumber_5 : decode cX9_addressNumber 5 = .ok (.isub, 1) := by decide +kernel
theorem dX9_addressNumber_6 : decode cX9_addressNumber 6 = .ok (.istore_n 3, 1) := by decide +kernel
theorem dX9_addressNumber_7 : decode cX9_addressNumber 7 = .ok (.iload_n 3, 1) := by decide +kernel
theorem dX9_addressNumber_8 : decode cX9_addressNumber 8 = .ok (.ifCond .lt 51, 3) := by decide +kernel
theorem dX9_addressNumber_11 : decode cX9_addressNumber 11 = .ok (.aload_n 0, 1) := by decide +kernel
theorem dX9_addressNumber_12 : decode cX9_addressNumber 12 = .ok (.getfield 97, 3) := by decide +kernel
theorem dX9_addressNumber_15 : decode cX9_addressNumber 15 = .ok (.aload_n 0, 1) := by decide +kernel
theorem dX9_addressNumber_16 : decode cX9_addressNumber 16 = .ok (.getfield 375, 3) := by decide +kernel
theorem dX9_addressNumber_19 : decode cX9_addressNumber 19 = .ok (.lload_n 1, 1) := by decide +kernel
theorem dX9_addressNumber_20 : decode cX9_addressNumber 20 = .ok (.bipush 7, 2) := by decide +kernel
theorem dX9_addressNumber_22 : decode cX9_addressNumber 22 = .ok (.iload_n 3, 1) := by decide +kernel
theorem dX9_addressNumber_23 : decode cX9_addressNumber 23 = .ok (.imul, 1) := by decide +kernel
theorem dX9_addressNumber_24 : decode cX9_addressNumber 24 = .ok (.lshr, 1) := by decide +kernel
theorem dX9_addressNumber_25 : decode cX9_addressNumber 25 = .ok (.l2i, 1) := by decide +kernel
theorem dX9_addressNumber_26 : decode cX9_addressNumber 26 = .ok (.bipush 127, 2) := by decide +kernel
theorem dX9_addressNumber_28 : decode cX9_addressNumber 28 = .ok (.iand, 1) := by decide +kernel
theorem dX9_addressNumber_29 : decode cX9_addressNumber 29 = .ok (.iload_n 3, 1) := by decide +kernel
theorem dX9_addressNumber_30 : decode cX9_addressNumber 30 = .ok (.ifCond .le 9, 3) := by decide +kernel
theorem dX9_addressNumber_33 : decode cX9_addressNumber 33 = .ok (.sipush 128, 3) := by decide +kernel
theorem dX9_addressNumber_36 : decode cX9_addressNumber 36 = .ok (.goto 4, 3) := by decide +kernel
theorem dX9_addressNumber_39 : decode cX9_addressNumber 39 = .ok (.iconst 0, 1) := by decide +kernel
theorem dX9_addressNumber_40 : decode cX9_addressNumber 40 = .ok (.ior, 1) := by decide +kernel
theorem dX9_addressNumber_41 : decode cX9_addressNumber 41 = .ok (.i2b, 1) := by decide +kernel
theorem dX9_addressNumber_42 : decode cX9_addressNumber 42 = .ok (.bastore, 1) := by decide +kernel
theorem dX9_addressNumber_43 : decode cX9_addressNumber 43 = .ok (.aload_n 0, 1) := by decide +kernel
theorem dX9_addressNumber_44 : decode cX9_addressNumber 44 = .ok (.dup, 1) := by decide +kernel
theorem dX9_addressNumber_45 : decode cX9_addressNumber 45 = .ok (.getfield 375, 3) := by decide +kernel
theorem dX9_addressNumber_48 : decode cX9_addressNumber 48 = .ok (.iconst 1, 1) := by decide +kernel
theorem dX9_addressNumber_49 : decode cX9_addressNumber 49 = .ok (.iadd, 1) := by decide +kernel
theorem dX9_addressNumber_50 : decode cX9_addressNumber 50 = .ok (.putfield 375, 3) := by decide +kernel
theorem dX9_addressNumber_53 : decode cX9_addressNumber 53 = .ok (.iinc 3 (-1), 3) := by decide +kernel
theorem dX9_addressNumber_56 : decode cX9_addressNumber 56 = .ok (.goto (-49), 3) := by decide +kernel
theorem dX9_addressNumber_59 : decode cX9_addressNumber 59 = .ok (.return_, 1) := by decide +kernel
theorem dX9_modeFor_0 : decode cX9_modeFor 0 = .ok (.iconst 0, 1) := by decide +kernel
theorem dX9_modeFor_1 : decode cX9_modeFor 1 = .ok (.istore_n 3, 1) := by decide +kernel
theorem dX9_modeFor_2 : decode cX9_modeFor 2 = .ok (.iload_n 1, 1) := by decide +kernel
theorem dX9_modeFor_3 : decode cX9_modeFor 3 = .ok (.i2l, 1) := by decide +kernel
theorem dX9_modeFor_4 : decode cX9_modeFor 4 = .ok (.lstore 4, 2) := by decide +kernel
theorem dX9_modeFor_6 : decode cX9_modeFor 6 = .ok (.iload_n 1, 1) := by decide +kernel
theorem dX9_modeFor_7 : decode cX9_modeFor 7 = .ok (.i2l, 1) := by decide +kernel
theorem dX9_modeFor_8 : decode cX9_modeFor 8 = .ok (.invokestatic 349, 3) := by decide +kernel
theorem dX9_modeFor_11 : decode cX9_modeFor 11 = .ok (.istore 6, 2) := by decide +kernel
theorem dX9_modeFor_13 : decode cX9_modeFor 13 = .ok (.iload_n 2, 1) := by decide +kernel
theorem dX9_modeFor_14 : decode cX9_modeFor 14 = .ok (.iload_n 1, 1) := by decide +kernel
theorem dX9_modeFor_15 : decode cX9_modeFor 15 = .ok (.isub, 1) := by decide +kernel
theorem dX9_modeFor_16 : decode cX9_modeFor 16 = .ok (.i2l, 1) := by decide +kernel
theorem dX9_modeFor_17 : decode cX9_modeFor 17 = .ok (.invokestatic 349, 3) := by decide +kernel
theorem dX9_modeFor_20 : decode cX9_modeFor 20 = .ok (.iload 6, 2) := by decide +kernel
theorem dX9_modeFor_22 : decode cX9_modeFor 22 = .ok (.if_icmp .ge 18, 3) := by decide +kernel
theorem dX9_modeFor_25 : decode cX9_modeFor 25 = .ok (.iconst 1, 1) := by decide +kernel
theorem dX9_modeFor_26 : decode cX9_modeFor 26 = .ok (.istore_n 3, 1) := by decide +kernel
theorem dX9_modeFor_27 : decode cX9_modeFor 27 = .ok (.iload_n 2, 1) := by decide +kernel
theorem dX9_modeFor_28 : decode cX9_modeFor 28 = .ok (.iload_n 1, 1) := by decide +kernel
theorem dX9_modeFor_29 : decode cX9_modeFor 29 = .ok (.isub, 1) := by decide +kernel
theorem dX9_modeFor_30 : decode cX9_modeFor 30 = .ok (.i2l, 1) := by decide +kernel
theorem dX9_modeFor_31 : decode cX9_modeFor 31 = .ok (.lstore 4, 2) := by decide +kernel
theorem dX9_modeFor_33 : decode cX9_modeFor 33 = .ok (.lload 4, 2) := by decide +kernel
theorem dX9_modeFor_35 : decode cX9_modeFor 35 = .ok (.invokestatic 349, 3) := by decide +kernel
theorem dX9_modeFor_38 : decode cX9_modeFor 38 = .ok (.istore 6, 2) := by decide +kernel
theorem dX9_modeFor_40 : decode cX9_modeFor 40 = .ok (.iconst 0, 1) := by decide +kernel
theorem dX9_modeFor_41 : decode cX9_modeFor 41 = .ok (.istore 7, 2) := by decide +kernel
theorem dX9_modeFor_43 : decode cX9_modeFor 43 = .ok (.iload 7, 2) := by decide +kernel
theorem dX9_modeFor_45 : decode cX9_modeFor 45 = .ok (.aload_n 0, 1) := by decide +kernel
theorem dX9_modeFor_46 : decode cX9_modeFor 46 = .ok (.getfield 164, 3) := by decide +kernel
theorem dX9_modeFor_49 : decode cX9_modeFor 49 = .ok (.if_icmp .ge 54, 3) := by decide +kernel
theorem dX9_modeFor_52 : decode cX9_modeFor 52 = .ok (.iload_n 1, 1) := by decide +kernel
theorem dX9_modeFor_53 : decode cX9_modeFor 53 = .ok (.i2l, 1) := by decide +kernel
theorem dX9_modeFor_54 : decode cX9_modeFor 54 = .ok (.aload_n 0, 1) := by decide +kernel
theorem dX9_modeFor_55 : decode cX9_modeFor 55 = .ok (.getfield 33, 3) := by decide +kernel
theorem dX9_modeFor_58 : decode cX9_modeFor 58 = .ok (.iload 7, 2) := by decide +kernel
theorem dX9_modeFor_60 : decode cX9_modeFor 60 = .ok (.laload, 1) := by decide +kernel
theorem dX9_modeFor_61 : decode cX9_modeFor 61 = .ok (.lsub, 1) := by decide +kernel
theorem dX9_modeFor_62 : decode cX9_modeFor 62 = .ok (.lstore 8, 2) := by decide +kernel
theorem dX9_modeFor_64 : decode cX9_modeFor 64 = .ok (.lload 8, 2) := by decide +kernel
theorem dX9_modeFor_66 : decode cX9_modeFor 66 = .ok (.lconst 0, 1) := by decide +kernel
theorem dX9_modeFor_67 : decode cX9_modeFor 67 = .ok (.lcmp, 1) := by decide +kernel
theorem dX9_modeFor_68 : decode cX9_modeFor 68 = .ok (.ifCond .lt 29, 3) := by decide +kernel
theorem dX9_modeFor_71 : decode cX9_modeFor 71 = .ok (.lload 8, 2) := by decide +kernel
theorem dX9_modeFor_73 : decode cX9_modeFor 73 = .ok (.invokestatic 349, 3) := by decide +kernel
theorem dX9_modeFor_76 : decode cX9_modeFor 76 = .ok (.iload 6, 2) := by decide +kernel
theorem dX9_modeFor_78 : decode cX9_modeFor 78 = .ok (.if_icmp .ge 19, 3) := by decide +kernel
theorem dX9_modeFor_81 : decode cX9_modeFor 81 = .ok (.iconst 2, 1) := by decide +kernel
theorem dX9_modeFor_82 : decode cX9_modeFor 82 = .ok (.iload 7, 2) := by decide +kernel
theorem dX9_modeFor_84 : decode cX9_modeFor 84 = .ok (.iadd, 1) := by decide +kernel
theorem dX9_modeFor_85 : decode cX9_modeFor 85 = .ok (.istore_n 3, 1) := by decide +kernel
theorem dX9_modeFor_86 : decode cX9_modeFor 86 = .ok (.lload 8, 2) := by decide +kernel
theorem dX9_modeFor_88 : decode cX9_modeFor 88 = .ok (.lstore 4, 2) := by decide +kernel
theorem dX9_modeFor_90 : decode cX9_modeFor 90 = .ok (.lload 8, 2) := by decide +kernel
theorem dX9_modeFor_92 : decode cX9_modeFor 92 = .ok (.invokestatic 349, 3) := by decide +kernel
theorem dX9_modeFor_95 : decode cX9_modeFor 95 = .ok (.istore 6, 2) := by decide +kernel
theorem dX9_modeFor_97 : decode cX9_modeFor 97 = .ok (.iinc 7 1, 3) := by decide +kernel
theorem dX9_modeFor_100 : decode cX9_modeFor 100 = .ok (.goto (-57), 3) := by decide +kernel
theorem dX9_modeFor_103 : decode cX9_modeFor 103 = .ok (.aload_n 0, 1) := by decide +kernel
theorem dX9_modeFor_104 : decode cX9_modeFor 104 = .ok (.getfield 167, 3) := by decide +kernel
theorem dX9_modeFor_107 : decode cX9_modeFor 107 = .ok (.ifCond .le 16, 3) := by decide +kernel
theorem dX9_modeFor_110 : decode cX9_modeFor 110 = .ok (.iload_n 1, 1) := by decide +kernel
theorem dX9_modeFor_111 : decode cX9_modeFor 111 = .ok (.sipush 256, 3) := by decide +kernel
theorem dX9_modeFor_114 : decode cX9_modeFor 114 = .ok (.aload_n 0, 1) := by decide +kernel
theorem dX9_modeFor_115 : decode cX9_modeFor 115 = .ok (.getfield 167, 3) := by decide +kernel
theorem dX9_modeFor_118 : decode cX9_modeFor 118 = .ok (.imul, 1) := by decide +kernel
theorem dX9_modeFor_119 : decode cX9_modeFor 119 = .ok (.irem, 1) := by decide +kernel
theorem dX9_modeFor_120 : decode cX9_modeFor 120 = .ok (.goto 4, 3) := by decide +kernel
theorem dX9_modeFor_123 : decode cX9_modeFor 123 = .ok (.iconst 0, 1) := by decide +kernel
theorem dX9_modeFor_124 : decode cX9_modeFor 124 = .ok (.istore 7, 2) := by decide +kernel
theorem dX9_modeFor_126 : decode cX9_modeFor 126 = .ok (.aload_n 0, 1) := by decide +kernel
theorem dX9_modeFor_127 : decode cX9_modeFor 127 = .ok (.getfield 167, 3) := by decide +kernel
theorem dX9_modeFor_130 : decode cX9_modeFor 130 = .ok (.ifCond .le 60, 3) := by decide +kernel
theorem dX9_modeFor_133 : decode cX9_modeFor 133 = .ok (.iload 6, 2) := by decide +kernel
theorem dX9_modeFor_135 : decode cX9_modeFor 135 = .ok (.iconst 1, 1) := by decide +kernel
theorem dX9_modeFor_136 : decode cX9_modeFor 136 = .ok (.if_icmp .le 54, 3) := by decide +kernel
theorem dX9_modeFor_139 : decode cX9_modeFor 139 = .ok (.aload_n 0, 1) := by decide +kernel
theorem dX9_modeFor_140 : decode cX9_modeFor 140 = .ok (.getfield 37, 3) := by decide +kernel
theorem dX9_modeFor_143 : decode cX9_modeFor 143 = .ok (.iload 7, 2) := by decide +kernel
theorem dX9_modeFor_145 : decode cX9_modeFor 145 = .ok (.laload, 1) := by decide +kernel
theorem dX9_modeFor_146 : decode cX9_modeFor 146 = .ok (.iload_n 1, 1) := by decide +kernel
theorem dX9_modeFor_147 : decode cX9_modeFor 147 = .ok (.i2l, 1) := by decide +kernel
theorem dX9_modeFor_148 : decode cX9_modeFor 148 = .ok (.lcmp, 1) := by decide +kernel
theorem dX9_modeFor_149 : decode cX9_modeFor 149 = .ok (.ifCond .ne 41, 3) := by decide +kernel
theorem dX9_modeFor_152 : decode cX9_modeFor 152 = .ok (.aload_n 0, 1) := by decide +kernel
theorem dX9_modeFor_153 : decode cX9_modeFor 153 = .ok (.getfield 164, 3) := by decide +kernel
theorem dX9_modeFor_156 : decode cX9_modeFor 156 = .ok (.iconst 2, 1) := by decide +kernel
theorem dX9_modeFor_157 : decode cX9_modeFor 157 = .ok (.iadd, 1) := by decide +kernel
theorem dX9_modeFor_158 : decode cX9_modeFor 158 = .ok (.iload 7, 2) := by decide +kernel
theorem dX9_modeFor_160 : decode cX9_modeFor 160 = .ok (.sipush 256, 3) := by decide +kernel
theorem dX9_modeFor_163 : decode cX9_modeFor 163 = .ok (.idiv, 1) := by decide +kernel
theorem dX9_modeFor_164 : decode cX9_modeFor 164 = .ok (.iadd, 1) := by decide +kernel
theorem dX9_modeFor_165 : decode cX9_modeFor 165 = .ok (.istore_n 3, 1) := by decide +kernel
theorem dX9_modeFor_166 : decode cX9_modeFor 166 = .ok (.aload_n 0, 1) := by decide +kernel
theorem dX9_modeFor_167 : decode cX9_modeFor 167 = .ok (.getfield 97, 3) := by decide +kernel
theorem dX9_modeFor_170 : decode cX9_modeFor 170 = .ok (.aload_n 0, 1) := by decide +kernel
theorem dX9_modeFor_171 : decode cX9_modeFor 171 = .ok (.getfield 375, 3) := by decide +kernel
theorem dX9_modeFor_174 : decode cX9_modeFor 174 = .ok (.iload 7, 2) := by decide +kernel
theorem dX9_modeFor_176 : decode cX9_modeFor 176 = .ok (.i2b, 1) := by decide +kernel
theorem dX9_modeFor_177 : decode cX9_modeFor 177 = .ok (.bastore, 1) := by decide +kernel
theorem dX9_modeFor_178 : decode cX9_modeFor 178 = .ok (.aload_n 0, 1) := by decide +kernel
theorem dX9_modeFor_179 : decode cX9_modeFor 179 = .ok (.dup, 1) := by decide +kernel
theorem dX9_modeFor_180 : decode cX9_modeFor 180 = .ok (.getfield 375, 3) := by decide +kernel
theorem dX9_modeFor_183 : decode cX9_modeFor 183 = .ok (.iconst 1, 1) := by decide +kernel
theorem dX9_modeFor_184 : decode cX9_modeFor 184 = .ok (.iadd, 1) := by decide +kernel
theorem dX9_modeFor_185 : decode cX9_modeFor 185 = .ok (.putfield 375, 3) := by decide +kernel
theorem dX9_modeFor_188 : decode cX9_modeFor 188 = .ok (.iload_n 3, 1) := by decide +kernel
theorem dX9_modeFor_189 : decode cX9_modeFor 189 = .ok (.ireturn, 1) := by decide +kernel
theorem dX9_modeFor_190 : decode cX9_modeFor 190 = .ok (.aload_n 0, 1) := by decide +kernel
theorem dX9_modeFor_191 : decode cX9_modeFor 191 = .ok (.lload 4, 2) := by decide +kernel
theorem dX9_modeFor_193 : decode cX9_modeFor 193 = .ok (.invokevirtual 378, 3) := by decide +kernel
theorem dX9_modeFor_196 : decode cX9_modeFor 196 = .ok (.iload_n 3, 1) := by decide +kernel
theorem dX9_modeFor_197 : decode cX9_modeFor 197 = .ok (.ireturn, 1) := by decide +kernel
theorem dX9_fits_0 : decode cX9_fits 0 = .ok (.aload_n 0, 1) := by decide +kernel
theorem dX9_fits_1 : decode cX9_fits 1 = .ok (.iload_n 1, 1) := by decide +kernel
theorem dX9_fits_2 : decode cX9_fits 2 = .ok (.iload_n 2, 1) := by decide +kernel
theorem dX9_fits_3 : decode cX9_fits 3 = .ok (.invokevirtual 290, 3) := by decide +kernel
theorem dX9_fits_6 : decode cX9_fits 6 = .ok (.aload_n 0, 1) := by decide +kernel
theorem dX9_fits_7 : decode cX9_fits 7 = .ok (.getfield 103, 3) := by decide +kernel
theorem dX9_fits_10 : decode cX9_fits 10 = .ok (.iload_n 3, 1) := by decide +kernel
theorem dX9_fits_11 : decode cX9_fits 11 = .ok (.iaload, 1) := by decide +kernel
theorem dX9_fits_12 : decode cX9_fits 12 = .ok (.if_icmp .ne 56, 3) := by decide +kernel
theorem dX9_fits_15 : decode cX9_fits 15 = .ok (.aload_n 0, 1) := by decide +kernel
theorem dX9_fits_16 : decode cX9_fits 16 = .ok (.iload_n 1, 1) := by decide +kernel
theorem dX9_fits_17 : decode cX9_fits 17 = .ok (.iload_n 2, 1) := by decide +kernel
theorem dX9_fits_18 : decode cX9_fits 18 = .ok (.invokevirtual 298, 3) := by decide +kernel
theorem dX9_fits_21 : decode cX9_fits 21 = .ok (.iload 4, 2) := by decide +kernel
theorem dX9_fits_23 : decode cX9_fits 23 = .ok (.ifCond .eq 12, 3) := by decide +kernel
theorem dX9_fits_26 : decode cX9_fits 26 = .ok (.aload_n 0, 1) := by decide +kernel
theorem dX9_fits_27 : decode cX9_fits 27 = .ok (.getfield 106, 3) := by decide +kernel
theorem dX9_fits_30 : decode cX9_fits 30 = .ok (.iload_n 3, 1) := by decide +kernel
theorem dX9_fits_31 : decode cX9_fits 31 = .ok (.iaload, 1) := by decide +kernel
theorem dX9_fits_32 : decode cX9_fits 32 = .ok (.goto 4, 3) := by decide +kernel
theorem dX9_fits_35 : decode cX9_fits 35 = .ok (.iconst 0, 1) := by decide +kernel
theorem dX9_fits_36 : decode cX9_fits 36 = .ok (.if_icmp .ne 32, 3) := by decide +kernel
theorem dX9_fits_39 : decode cX9_fits 39 = .ok (.aload_n 0, 1) := by decide +kernel
theorem dX9_fits_40 : decode cX9_fits 40 = .ok (.getfield 103, 3) := by decide +kernel
theorem dX9_fits_43 : decode cX9_fits 43 = .ok (.iload_n 3, 1) := by decide +kernel
theorem dX9_fits_44 : decode cX9_fits 44 = .ok (.iaload, 1) := by decide +kernel
theorem dX9_fits_45 : decode cX9_fits 45 = .ok (.iconst 3, 1) := by decide +kernel
theorem dX9_fits_46 : decode cX9_fits 46 = .ok (.if_icmp .ne 18, 3) := by decide +kernel
theorem dX9_fits_49 : decode cX9_fits 49 = .ok (.aload_n 0, 1) := by decide +kernel
theorem dX9_fits_50 : decode cX9_fits 50 = .ok (.iload_n 1, 1) := by decide +kernel
theorem dX9_fits_51 : decode cX9_fits 51 = .ok (.iload_n 2, 1) := by decide +kernel
theorem dX9_fits_52 : decode cX9_fits 52 = .ok (.invokevirtual 305, 3) := by decide +kernel
theorem dX9_fits_55 : decode cX9_fits 55 = .ok (.aload_n 0, 1) := by decide +kernel
theorem dX9_fits_56 : decode cX9_fits 56 = .ok (.getfield 115, 3) := by decide +kernel
theorem dX9_fits_59 : decode cX9_fits 59 = .ok (.iload_n 3, 1) := by decide +kernel
theorem dX9_fits_60 : decode cX9_fits 60 = .ok (.iaload, 1) := by decide +kernel
theorem dX9_fits_61 : decode cX9_fits 61 = .ok (.if_icmp .ne 7, 3) := by decide +kernel
theorem dX9_fits_64 : decode cX9_fits 64 = .ok (.iconst 1, 1) := by decide +kernel
theorem dX9_fits_65 : decode cX9_fits 65 = .ok (.goto 4, 3) := by decide +kernel
theorem dX9_fits_68 : decode cX9_fits 68 = .ok (.iconst 0, 1) := by decide +kernel
theorem dX9_fits_69 : decode cX9_fits 69 = .ok (.ireturn, 1) := by decide +kernel
theorem dX9_codeFor_0 : decode cX9_codeFor 0 = .ok (.iconst 0, 1) := by decide +kernel
theorem dX9_codeFor_1 : decode cX9_codeFor 1 = .ok (.istore_n 2, 1) := by decide +kernel
theorem dX9_codeFor_2 : decode cX9_codeFor 2 = .ok (.iload_n 2, 1) := by decide +kernel
theorem dX9_codeFor_3 : decode cX9_codeFor 3 = .ok (.sipush 256, 3) := by decide +kernel
theorem dX9_codeFor_6 : decode cX9_codeFor 6 = .ok (.if_icmp .ge 49, 3) := by decide +kernel
theorem dX9_codeFor_9 : decode cX9_codeFor 9 = .ok (.iload_n 1, 1) := by decide +kernel
theorem dX9_codeFor_10 : decode cX9_codeFor 10 = .ok (.iconst 1, 1) := by decide +kernel
theorem dX9_codeFor_11 : decode cX9_codeFor 11 = .ok (.iadd, 1) := by decide +kernel
theorem dX9_codeFor_12 : decode cX9_codeFor 12 = .ok (.aload_n 0, 1) := by decide +kernel
theorem dX9_codeFor_13 : decode cX9_codeFor 13 = .ok (.getfield 356, 3) := by decide +kernel
theorem dX9_codeFor_16 : decode cX9_codeFor 16 = .ok (.if_icmp .ge 39, 3) := by decide +kernel
theorem dX9_codeFor_19 : decode cX9_codeFor 19 = .ok (.aload_n 0, 1) := by decide +kernel
theorem dX9_codeFor_20 : decode cX9_codeFor 20 = .ok (.iload_n 2, 1) := by decide +kernel
theorem dX9_codeFor_21 : decode cX9_codeFor 21 = .ok (.iconst 0, 1) := by decide +kernel
theorem dX9_codeFor_22 : decode cX9_codeFor 22 = .ok (.iload_n 1, 1) := by decide +kernel
theorem dX9_codeFor_23 : decode cX9_codeFor 23 = .ok (.iconst 1, 1) := by decide +kernel
theorem dX9_codeFor_24 : decode cX9_codeFor 24 = .ok (.invokevirtual 381, 3) := by decide +kernel
theorem dX9_codeFor_27 : decode cX9_codeFor 27 = .ok (.ifCond .eq 22, 3) := by decide +kernel
theorem dX9_codeFor_30 : decode cX9_codeFor 30 = .ok (.aload_n 0, 1) := by decide +kernel
theorem dX9_codeFor_31 : decode cX9_codeFor 31 = .ok (.iload_n 2, 1) := by decide +kernel
theorem dX9_codeFor_32 : decode cX9_codeFor 32 = .ok (.iconst 1, 1) := by decide +kernel
theorem dX9_codeFor_33 : decode cX9_codeFor 33 = .ok (.iload_n 1, 1) := by decide +kernel
theorem dX9_codeFor_34 : decode cX9_codeFor 34 = .ok (.iconst 1, 1) := by decide +kernel
theorem dX9_codeFor_35 : decode cX9_codeFor 35 = .ok (.iadd, 1) := by decide +kernel
theorem dX9_codeFor_36 : decode cX9_codeFor 36 = .ok (.iconst 1, 1) := by decide +kernel
theorem dX9_codeFor_37 : decode cX9_codeFor 37 = .ok (.invokevirtual 381, 3) := by decide +kernel
theorem dX9_codeFor_40 : decode cX9_codeFor 40 = .ok (.ifCond .eq 9, 3) := by decide +kernel
theorem dX9_codeFor_43 : decode cX9_codeFor 43 = .ok (.sipush 1000, 3) := by decide +kernel
theorem dX9_codeFor_46 : decode cX9_codeFor 46 = .ok (.iload_n 2, 1) := by decide +kernel
theorem dX9_codeFor_47 : decode cX9_codeFor 47 = .ok (.iadd, 1) := by decide +kernel
theorem dX9_codeFor_48 : decode cX9_codeFor 48 = .ok (.ireturn, 1) := by decide +kernel
theorem dX9_codeFor_49 : decode cX9_codeFor 49 = .ok (.iinc 2 1, 3) := by decide +kernel
theorem dX9_codeFor_52 : decode cX9_codeFor 52 = .ok (.goto (-50), 3) := by decide +kernel
theorem dX9_codeFor_55 : decode cX9_codeFor 55 = .ok (.iconst 0, 1) := by decide +kernel
theorem dX9_codeFor_56 : decode cX9_codeFor 56 = .ok (.istore_n 2, 1) := by decide +kernel
theorem dX9_codeFor_57 : decode cX9_codeFor 57 = .ok (.iload_n 2, 1) := by decide +kernel
theorem dX9_codeFor_58 : decode cX9_codeFor 58 = .ok (.sipush 256, 3) := by decide +kernel
theorem dX9_codeFor_61 : decode cX9_codeFor 61 = .ok (.if_icmp .ge 31, 3) := by decide +kernel
theorem dX9_codeFor_64 : decode cX9_codeFor 64 = .ok (.aload_n 0, 1) := by decide +kernel
theorem dX9_codeFor_65 : decode cX9_codeFor 65 = .ok (.iload_n 2, 1) := by decide +kernel
theorem dX9_codeFor_66 : decode cX9_codeFor 66 = .ok (.iconst 0, 1) := by decide +kernel
theorem dX9_codeFor_67 : decode cX9_codeFor 67 = .ok (.iload_n 1, 1) := by decide +kernel
theorem dX9_codeFor_68 : decode cX9_codeFor 68 = .ok (.iconst 1, 1) := by decide +kernel
theorem dX9_codeFor_69 : decode cX9_codeFor 69 = .ok (.invokevirtual 381, 3) := by decide +kernel
theorem dX9_codeFor_72 : decode cX9_codeFor 72 = .ok (.ifCond .eq 14, 3) := by decide +kernel
theorem dX9_codeFor_75 : decode cX9_codeFor 75 = .ok (.aload_n 0, 1) := by decide +kernel
theorem dX9_codeFor_76 : decode cX9_codeFor 76 = .ok (.iload_n 2, 1) := by decide +kernel
theorem dX9_codeFor_77 : decode cX9_codeFor 77 = .ok (.iconst 1, 1) := by decide +kernel
theorem dX9_codeFor_78 : decode cX9_codeFor 78 = .ok (.invokevirtual 290, 3) := by decide +kernel
theorem dX9_codeFor_81 : decode cX9_codeFor 81 = .ok (.ifCond .ne 5, 3) := by decide +kernel
theorem dX9_codeFor_84 : decode cX9_codeFor 84 = .ok (.iload_n 2, 1) := by decide +kernel
theorem dX9_codeFor_85 : decode cX9_codeFor 85 = .ok (.ireturn, 1) := by decide +kernel
theorem dX9_codeFor_86 : decode cX9_codeFor 86 = .ok (.iinc 2 1, 3) := by decide +kernel
theorem dX9_codeFor_89 : decode cX9_codeFor 89 = .ok (.goto (-32), 3) := by decide +kernel
theorem dX9_codeFor_92 : decode cX9_codeFor 92 = .ok (.iconst 0, 1) := by decide +kernel
theorem dX9_codeFor_93 : decode cX9_codeFor 93 = .ok (.istore_n 2, 1) := by decide +kernel
theorem dX9_codeFor_94 : decode cX9_codeFor 94 = .ok (.iload_n 2, 1) := by decide +kernel
theorem dX9_codeFor_95 : decode cX9_codeFor 95 = .ok (.sipush 256, 3) := by decide +kernel
theorem dX9_codeFor_98 : decode cX9_codeFor 98 = .ok (.if_icmp .ge 31, 3) := by decide +kernel
theorem dX9_codeFor_101 : decode cX9_codeFor 101 = .ok (.aload_n 0, 1) := by decide +kernel
theorem dX9_codeFor_102 : decode cX9_codeFor 102 = .ok (.iload_n 2, 1) := by decide +kernel
theorem dX9_codeFor_103 : decode cX9_codeFor 103 = .ok (.iconst 0, 1) := by decide +kernel
theorem dX9_codeFor_104 : decode cX9_codeFor 104 = .ok (.iload_n 1, 1) := by decide +kernel
theorem dX9_codeFor_105 : decode cX9_codeFor 105 = .ok (.iconst 0, 1) := by decide +kernel
theorem dX9_codeFor_106 : decode cX9_codeFor 106 = .ok (.invokevirtual 381, 3) := by decide +kernel
theorem dX9_codeFor_109 : decode cX9_codeFor 109 = .ok (.ifCond .eq 14, 3) := by decide +kernel
theorem dX9_codeFor_112 : decode cX9_codeFor 112 = .ok (.aload_n 0, 1) := by decide +kernel
theorem dX9_codeFor_113 : decode cX9_codeFor 113 = .ok (.iload_n 2, 1) := by decide +kernel
theorem dX9_codeFor_114 : decode cX9_codeFor 114 = .ok (.iconst 1, 1) := by decide +kernel
theorem dX9_codeFor_115 : decode cX9_codeFor 115 = .ok (.invokevirtual 290, 3) := by decide +kernel
theorem dX9_codeFor_118 : decode cX9_codeFor 118 = .ok (.ifCond .ne 5, 3) := by decide +kernel
theorem dX9_codeFor_121 : decode cX9_codeFor 121 = .ok (.iload_n 2, 1) := by decide +kernel
theorem dX9_codeFor_122 : decode cX9_codeFor 122 = .ok (.ireturn, 1) := by decide +kernel
theorem dX9_codeFor_123 : decode cX9_codeFor 123 = .ok (.iinc 2 1, 3) := by decide +kernel
theorem dX9_codeFor_126 : decode cX9_codeFor 126 = .ok (.goto (-32), 3) := by decide +kernel
theorem dX9_codeFor_129 : decode cX9_codeFor 129 = .ok (.iconst (-1), 1) := by decide +kernel
theorem dX9_codeFor_130 : decode cX9_codeFor 130 = .ok (.ireturn, 1) := by decide +kernel
theorem dX9_codeOctet_0 : decode cX9_codeOctet 0 = .ok (.aload_n 0, 1) := by decide +kernel
theorem dX9_codeOctet_1 : decode cX9_codeOctet 1 = .ok (.getfield 94, 3) := by decide +kernel
theorem dX9_codeOctet_4 : decode cX9_codeOctet 4 = .ok (.aload_n 0, 1) := by decide +kernel
theorem dX9_codeOctet_5 : decode cX9_codeOctet 5 = .ok (.getfield 385, 3) := by decide +kernel
theorem dX9_codeOctet_8 : decode cX9_codeOctet 8 = .ok (.iload_n 1, 1) := by decide +kernel
theorem dX9_codeOctet_9 : decode cX9_codeOctet 9 = .ok (.i2b, 1) := by decide +kernel
theorem dX9_codeOctet_10 : decode cX9_codeOctet 10 = .ok (.bastore, 1) := by decide +kernel
theorem dX9_codeOctet_11 : decode cX9_codeOctet 11 = .ok (.aload_n 0, 1) := by decide +kernel
theorem dX9_codeOctet_12 : decode cX9_codeOctet 12 = .ok (.dup, 1) := by decide +kernel
theorem dX9_codeOctet_13 : decode cX9_codeOctet 13 = .ok (.getfield 385, 3) := by decide +kernel
theorem dX9_codeOctet_16 : decode cX9_codeOctet 16 = .ok (.iconst 1, 1) := by decide +kernel
theorem dX9_codeOctet_17 : decode cX9_codeOctet 17 = .ok (.iadd, 1) := by decide +kernel
theorem dX9_codeOctet_18 : decode cX9_codeOctet 18 = .ok (.putfield 385, 3) := by decide +kernel
theorem dX9_codeOctet_21 : decode cX9_codeOctet 21 = .ok (.return_, 1) := by decide +kernel
theorem dX9_encode_0 : decode cX9_encode 0 = .ok (.aload_n 0, 1) := by decide +kernel
theorem dX9_encode_1 : decode cX9_encode 1 = .ok (.invokevirtual 287, 3) := by decide +kernel
theorem dX9_encode_4 : decode cX9_encode 4 = .ok (.aload_n 0, 1) := by decide +kernel
theorem dX9_encode_5 : decode cX9_encode 5 = .ok (.iconst 0, 1) := by decide +kernel
theorem dX9_encode_6 : decode cX9_encode 6 = .ok (.putfield 388, 3) := by decide +kernel
theorem dX9_encode_9 : decode cX9_encode 9 = .ok (.aload_n 0, 1) := by decide +kernel
theorem dX9_encode_10 : decode cX9_encode 10 = .ok (.iconst 0, 1) := by decide +kernel
theorem dX9_encode_11 : decode cX9_encode 11 = .ok (.putfield 385, 3) := by decide +kernel
theorem dX9_encode_14 : decode cX9_encode 14 = .ok (.aload_n 0, 1) := by decide +kernel
theorem dX9_encode_15 : decode cX9_encode 15 = .ok (.iconst 0, 1) := by decide +kernel
theorem dX9_encode_16 : decode cX9_encode 16 = .ok (.putfield 375, 3) := by decide +kernel
theorem dX9_encode_19 : decode cX9_encode 19 = .ok (.iconst 0, 1) := by decide +kernel
theorem dX9_encode_20 : decode cX9_encode 20 = .ok (.istore_n 2, 1) := by decide +kernel
theorem dX9_encode_21 : decode cX9_encode 21 = .ok (.iload_n 2, 1) := by decide +kernel
theorem dX9_encode_22 : decode cX9_encode 22 = .ok (.aload_n 0, 1) := by decide +kernel
theorem dX9_encode_23 : decode cX9_encode 23 = .ok (.getfield 356, 3) := by decide +kernel
theorem dX9_encode_26 : decode cX9_encode 26 = .ok (.if_icmp .ge 124, 3) := by decide +kernel
theorem dX9_encode_29 : decode cX9_encode 29 = .ok (.aload_n 0, 1) := by decide +kernel
theorem dX9_encode_30 : decode cX9_encode 30 = .ok (.getfield 103, 3) := by decide +kernel
theorem dX9_encode_33 : decode cX9_encode 33 = .ok (.iload_n 2, 1) := by decide +kernel
theorem dX9_encode_34 : decode cX9_encode 34 = .ok (.iaload, 1) := by decide +kernel
theorem dX9_encode_35 : decode cX9_encode 35 = .ok (.iconst 3, 1) := by decide +kernel
theorem dX9_encode_36 : decode cX9_encode 36 = .ok (.if_icmp .ne 39, 3) := by decide +kernel
theorem dX9_encode_39 : decode cX9_encode 39 = .ok (.aload_n 0, 1) := by decide +kernel
theorem dX9_encode_40 : decode cX9_encode 40 = .ok (.getfield 115, 3) := by decide +kernel
theorem dX9_encode_43 : decode cX9_encode 43 = .ok (.iload_n 2, 1) := by decide +kernel
theorem dX9_encode_44 : decode cX9_encode 44 = .ok (.aload_n 0, 1) := by decide +kernel
theorem dX9_encode_45 : decode cX9_encode 45 = .ok (.aload_n 0, 1) := by decide +kernel
theorem dX9_encode_46 : decode cX9_encode 46 = .ok (.getfield 112, 3) := by decide +kernel
theorem dX9_encode_49 : decode cX9_encode 49 = .ok (.iload_n 2, 1) := by decide +kernel
theorem dX9_encode_50 : decode cX9_encode 50 = .ok (.iaload, 1) := by decide +kernel
theorem dX9_encode_51 : decode cX9_encode 51 = .ok (.aload_n 0, 1) := by decide +kernel
theorem dX9_encode_52 : decode cX9_encode 52 = .ok (.getfield 109, 3) := by decide +kernel
theorem dX9_encode_55 : decode cX9_encode 55 = .ok (.iload_n 2, 1) := by decide +kernel
theorem dX9_encode_56 : decode cX9_encode 56 = .ok (.iaload, 1) := by decide +kernel
theorem dX9_encode_57 : decode cX9_encode 57 = .ok (.invokevirtual 391, 3) := by decide +kernel
theorem dX9_encode_60 : decode cX9_encode 60 = .ok (.iastore, 1) := by decide +kernel
theorem dX9_encode_61 : decode cX9_encode 61 = .ok (.aload_n 0, 1) := by decide +kernel
theorem dX9_encode_62 : decode cX9_encode 62 = .ok (.aload_n 0, 1) := by decide +kernel
theorem dX9_encode_63 : decode cX9_encode 63 = .ok (.getfield 112, 3) := by decide +kernel
theorem dX9_encode_66 : decode cX9_encode 66 = .ok (.iload_n 2, 1) := by decide +kernel
theorem dX9_encode_67 : decode cX9_encode 67 = .ok (.iaload, 1) := by decide +kernel
theorem dX9_encode_68 : decode cX9_encode 68 = .ok (.i2l, 1) := by decide +kernel
theorem dX9_encode_69 : decode cX9_encode 69 = .ok (.invokevirtual 312, 3) := by decide +kernel
theorem dX9_encode_72 : decode cX9_encode 72 = .ok (.goto 72, 3) := by decide +kernel
theorem dX9_encode_75 : decode cX9_encode 75 = .ok (.aload_n 0, 1) := by decide +kernel
theorem dX9_encode_76 : decode cX9_encode 76 = .ok (.getfield 103, 3) := by decide +kernel
theorem dX9_encode_79 : decode cX9_encode 79 = .ok (.iload_n 2, 1) := by decide +kernel
theorem dX9_encode_80 : decode cX9_encode 80 = .ok (.iaload, 1) := by decide +kernel
theorem dX9_encode_81 : decode cX9_encode 81 = .ok (.iconst 1, 1) := by decide +kernel
theorem dX9_encode_82 : decode cX9_encode 82 = .ok (.if_icmp .ne 12, 3) := by decide +kernel
theorem dX9_encode_85 : decode cX9_encode 85 = .ok (.aload_n 0, 1) := by decide +kernel
theorem dX9_encode_86 : decode cX9_encode 86 = .ok (.getfield 106, 3) := by decide +kernel
theorem dX9_encode_89 : decode cX9_encode 89 = .ok (.iload_n 2, 1) := by decide +kernel
theorem dX9_encode_90 : decode cX9_encode 90 = .ok (.iaload, 1) := by decide +kernel
theorem dX9_encode_91 : decode cX9_encode 91 = .ok (.goto 4, 3) := by decide +kernel
theorem dX9_encode_94 : decode cX9_encode 94 = .ok (.iconst 1, 1) := by decide +kernel
theorem dX9_encode_95 : decode cX9_encode 95 = .ok (.istore_n 3, 1) := by decide +kernel
theorem dX9_encode_96 : decode cX9_encode 96 = .ok (.iconst 0, 1) := by decide +kernel
theorem dX9_encode_97 : decode cX9_encode 97 = .ok (.istore 4, 2) := by decide +kernel
theorem dX9_encode_99 : decode cX9_encode 99 = .ok (.iload 4, 2) := by decide +kernel
theorem dX9_encode_101 : decode cX9_encode 101 = .ok (.iload_n 3, 1) := by decide +kernel
theorem dX9_encode_102 : decode cX9_encode 102 = .ok (.if_icmp .ge 42, 3) := by decide +kernel
theorem dX9_encode_105 : decode cX9_encode 105 = .ok (.aload_n 0, 1) := by decide +kernel
theorem dX9_encode_106 : decode cX9_encode 106 = .ok (.getfield 91, 3) := by decide +kernel
theorem dX9_encode_109 : decode cX9_encode 109 = .ok (.aload_n 0, 1) := by decide +kernel
theorem dX9_encode_110 : decode cX9_encode 110 = .ok (.getfield 388, 3) := by decide +kernel
theorem dX9_encode_113 : decode cX9_encode 113 = .ok (.aload_n 0, 1) := by decide +kernel
theorem dX9_encode_114 : decode cX9_encode 114 = .ok (.getfield 100, 3) := by decide +kernel
theorem dX9_encode_117 : decode cX9_encode 117 = .ok (.aload_n 0, 1) := by decide +kernel
theorem dX9_encode_118 : decode cX9_encode 118 = .ok (.getfield 109, 3) := by decide +kernel
theorem dX9_encode_121 : decode cX9_encode 121 = .ok (.iload_n 2, 1) := by decide +kernel
theorem dX9_encode_122 : decode cX9_encode 122 = .ok (.iaload, 1) := by decide +kernel
theorem dX9_encode_123 : decode cX9_encode 123 = .ok (.iload 4, 2) := by decide +kernel
theorem dX9_encode_125 : decode cX9_encode 125 = .ok (.iadd, 1) := by decide +kernel
theorem dX9_encode_126 : decode cX9_encode 126 = .ok (.baload, 1) := by decide +kernel
theorem dX9_encode_127 : decode cX9_encode 127 = .ok (.bastore, 1) := by decide +kernel
theorem dX9_encode_128 : decode cX9_encode 128 = .ok (.aload_n 0, 1) := by decide +kernel
theorem dX9_encode_129 : decode cX9_encode 129 = .ok (.dup, 1) := by decide +kernel
theorem dX9_encode_130 : decode cX9_encode 130 = .ok (.getfield 388, 3) := by decide +kernel
theorem dX9_encode_133 : decode cX9_encode 133 = .ok (.iconst 1, 1) := by decide +kernel
theorem dX9_encode_134 : decode cX9_encode 134 = .ok (.iadd, 1) := by decide +kernel
theorem dX9_encode_135 : decode cX9_encode 135 = .ok (.putfield 388, 3) := by decide +kernel
theorem dX9_encode_138 : decode cX9_encode 138 = .ok (.iinc 4 1, 3) := by decide +kernel
theorem dX9_encode_141 : decode cX9_encode 141 = .ok (.goto (-42), 3) := by decide +kernel
theorem dX9_encode_144 : decode cX9_encode 144 = .ok (.iinc 2 1, 3) := by decide +kernel
theorem dX9_encode_147 : decode cX9_encode 147 = .ok (.goto (-126), 3) := by decide +kernel
theorem dX9_encode_150 : decode cX9_encode 150 = .ok (.iconst 0, 1) := by decide +kernel
theorem dX9_encode_151 : decode cX9_encode 151 = .ok (.istore_n 2, 1) := by decide +kernel
theorem dX9_encode_152 : decode cX9_encode 152 = .ok (.iload_n 2, 1) := by decide +kernel
theorem dX9_encode_153 : decode cX9_encode 153 = .ok (.aload_n 0, 1) := by decide +kernel
theorem dX9_encode_154 : decode cX9_encode 154 = .ok (.getfield 356, 3) := by decide +kernel
theorem dX9_encode_157 : decode cX9_encode 157 = .ok (.if_icmp .ge 185, 3) := by decide +kernel
theorem dX9_encode_160 : decode cX9_encode 160 = .ok (.aload_n 0, 1) := by decide +kernel
theorem dX9_encode_161 : decode cX9_encode 161 = .ok (.iload_n 2, 1) := by decide +kernel
theorem dX9_encode_162 : decode cX9_encode 162 = .ok (.invokevirtual 394, 3) := by decide +kernel
theorem dX9_encode_165 : decode cX9_encode 165 = .ok (.istore_n 3, 1) := by decide +kernel
theorem dX9_encode_166 : decode cX9_encode 166 = .ok (.iload_n 3, 1) := by decide +kernel
theorem dX9_encode_167 : decode cX9_encode 167 = .ok (.ifCond .ge 5, 3) := by decide +kernel
theorem dX9_encode_170 : decode cX9_encode 170 = .ok (.iconst 0, 1) := by decide +kernel
theorem dX9_encode_171 : decode cX9_encode 171 = .ok (.ireturn, 1) := by decide +kernel
theorem dX9_encode_172 : decode cX9_encode 172 = .ok (.iload_n 3, 1) := by decide +kernel
theorem dX9_encode_173 : decode cX9_encode 173 = .ok (.sipush 1000, 3) := by decide +kernel
theorem dX9_encode_176 : decode cX9_encode 176 = .ok (.if_icmp .lt 7, 3) := by decide +kernel
theorem dX9_encode_179 : decode cX9_encode 179 = .ok (.iconst 2, 1) := by decide +kernel
theorem dX9_encode_180 : decode cX9_encode 180 = .ok (.goto 4, 3) := by decide +kernel
theorem dX9_encode_183 : decode cX9_encode 183 = .ok (.iconst 1, 1) := by decide +kernel
theorem dX9_encode_184 : decode cX9_encode 184 = .ok (.istore 4, 2) := by decide +kernel
theorem dX9_encode_186 : decode cX9_encode 186 = .ok (.iload_n 3, 1) := by decide +kernel
theorem dX9_encode_187 : decode cX9_encode 187 = .ok (.sipush 1000, 3) := by decide +kernel
theorem dX9_encode_190 : decode cX9_encode 190 = .ok (.irem, 1) := by decide +kernel
theorem dX9_encode_191 : decode cX9_encode 191 = .ok (.istore_n 3, 1) := by decide +kernel
theorem dX9_encode_192 : decode cX9_encode 192 = .ok (.aload_n 0, 1) := by decide +kernel
theorem dX9_encode_193 : decode cX9_encode 193 = .ok (.iload_n 3, 1) := by decide +kernel
theorem dX9_encode_194 : decode cX9_encode 194 = .ok (.invokevirtual 397, 3) := by decide +kernel
theorem dX9_encode_197 : decode cX9_encode 197 = .ok (.iload 4, 2) := by decide +kernel
theorem dX9_encode_199 : decode cX9_encode 199 = .ok (.iconst 1, 1) := by decide +kernel
theorem dX9_encode_200 : decode cX9_encode 200 = .ok (.if_icmp .ne 69, 3) := by decide +kernel
theorem dX9_encode_203 : decode cX9_encode 203 = .ok (.aload_n 0, 1) := by decide +kernel
theorem dX9_encode_204 : decode cX9_encode 204 = .ok (.iload_n 3, 1) := by decide +kernel
theorem dX9_encode_205 : decode cX9_encode 205 = .ok (.iconst 0, 1) := by decide +kernel
theorem dX9_encode_206 : decode cX9_encode 206 = .ok (.invokevirtual 298, 3) := by decide +kernel
theorem dX9_encode_209 : decode cX9_encode 209 = .ok (.ifCond .ne 60, 3) := by decide +kernel
theorem dX9_encode_212 : decode cX9_encode 212 = .ok (.aload_n 0, 1) := by decide +kernel
theorem dX9_encode_213 : decode cX9_encode 213 = .ok (.getfield 106, 3) := by decide +kernel
theorem dX9_encode_216 : decode cX9_encode 216 = .ok (.iload_n 2, 1) := by decide +kernel
theorem dX9_encode_217 : decode cX9_encode 217 = .ok (.iaload, 1) := by decide +kernel
theorem dX9_encode_218 : decode cX9_encode 218 = .ok (.i2l, 1) := by decide +kernel
theorem dX9_encode_219 : decode cX9_encode 219 = .ok (.invokestatic 349, 3) := by decide +kernel
theorem dX9_encode_222 : decode cX9_encode 222 = .ok (.iconst 1, 1) := by decide +kernel
theorem dX9_encode_223 : decode cX9_encode 223 = .ok (.isub, 1) := by decide +kernel
theorem dX9_encode_224 : decode cX9_encode 224 = .ok (.istore 5, 2) := by decide +kernel
theorem dX9_encode_226 : decode cX9_encode 226 = .ok (.iload 5, 2) := by decide +kernel
theorem dX9_encode_228 : decode cX9_encode 228 = .ok (.ifCond .lt 41, 3) := by decide +kernel
theorem dX9_encode_231 : decode cX9_encode 231 = .ok (.aload_n 0, 1) := by decide +kernel
theorem dX9_encode_232 : decode cX9_encode 232 = .ok (.aload_n 0, 1) := by decide +kernel
theorem dX9_encode_233 : decode cX9_encode 233 = .ok (.getfield 106, 3) := by decide +kernel
theorem dX9_encode_236 : decode cX9_encode 236 = .ok (.iload_n 2, 1) := by decide +kernel
theorem dX9_encode_237 : decode cX9_encode 237 = .ok (.iaload, 1) := by decide +kernel
theorem dX9_encode_238 : decode cX9_encode 238 = .ok (.bipush 7, 2) := by decide +kernel
theorem dX9_encode_240 : decode cX9_encode 240 = .ok (.iload 5, 2) := by decide +kernel
theorem dX9_encode_242 : decode cX9_encode 242 = .ok (.imul, 1) := by decide +kernel
theorem dX9_encode_243 : decode cX9_encode 243 = .ok (.ishr, 1) := by decide +kernel
theorem dX9_encode_244 : decode cX9_encode 244 = .ok (.bipush 127, 2) := by decide +kernel
theorem dX9_encode_246 : decode cX9_encode 246 = .ok (.iand, 1) := by decide +kernel
theorem dX9_encode_247 : decode cX9_encode 247 = .ok (.iload 5, 2) := by decide +kernel
theorem dX9_encode_249 : decode cX9_encode 249 = .ok (.ifCond .le 9, 3) := by decide +kernel
theorem dX9_encode_252 : decode cX9_encode 252 = .ok (.sipush 128, 3) := by decide +kernel
theorem dX9_encode_255 : decode cX9_encode 255 = .ok (.goto 4, 3) := by decide +kernel
theorem dX9_encode_258 : decode cX9_encode 258 = .ok (.iconst 0, 1) := by decide +kernel
theorem dX9_encode_259 : decode cX9_encode 259 = .ok (.ior, 1) := by decide +kernel
theorem dX9_encode_260 : decode cX9_encode 260 = .ok (.invokevirtual 397, 3) := by decide +kernel
theorem dX9_encode_263 : decode cX9_encode 263 = .ok (.iinc 5 (-1), 3) := by decide +kernel
theorem dX9_encode_266 : decode cX9_encode 266 = .ok (.goto (-40), 3) := by decide +kernel
theorem dX9_encode_269 : decode cX9_encode 269 = .ok (.iconst 0, 1) := by decide +kernel
theorem dX9_encode_270 : decode cX9_encode 270 = .ok (.istore 5, 2) := by decide +kernel
theorem dX9_encode_272 : decode cX9_encode 272 = .ok (.iload 5, 2) := by decide +kernel
theorem dX9_encode_274 : decode cX9_encode 274 = .ok (.iload 4, 2) := by decide +kernel
theorem dX9_encode_276 : decode cX9_encode 276 = .ok (.if_icmp .ge 58, 3) := by decide +kernel
theorem dX9_encode_279 : decode cX9_encode 279 = .ok (.aload_n 0, 1) := by decide +kernel
theorem dX9_encode_280 : decode cX9_encode 280 = .ok (.getfield 224, 3) := by decide +kernel
theorem dX9_encode_283 : decode cX9_encode 283 = .ok (.ifCond .eq 45, 3) := by decide +kernel
theorem dX9_encode_286 : decode cX9_encode 286 = .ok (.aload_n 0, 1) := by decide +kernel
theorem dX9_encode_287 : decode cX9_encode 287 = .ok (.aload_n 0, 1) := by decide +kernel
theorem dX9_encode_288 : decode cX9_encode 288 = .ok (.getfield 103, 3) := by decide +kernel
theorem dX9_encode_291 : decode cX9_encode 291 = .ok (.iload_n 2, 1) := by decide +kernel
theorem dX9_encode_292 : decode cX9_encode 292 = .ok (.iload 5, 2) := by decide +kernel
theorem dX9_encode_294 : decode cX9_encode 294 = .ok (.iadd, 1) := by decide +kernel
theorem dX9_encode_295 : decode cX9_encode 295 = .ok (.iaload, 1) := by decide +kernel
theorem dX9_encode_296 : decode cX9_encode 296 = .ok (.aload_n 0, 1) := by decide +kernel
theorem dX9_encode_297 : decode cX9_encode 297 = .ok (.getfield 106, 3) := by decide +kernel
theorem dX9_encode_300 : decode cX9_encode 300 = .ok (.iload_n 2, 1) := by decide +kernel
theorem dX9_encode_301 : decode cX9_encode 301 = .ok (.iload 5, 2) := by decide +kernel
theorem dX9_encode_303 : decode cX9_encode 303 = .ok (.iadd, 1) := by decide +kernel
theorem dX9_encode_304 : decode cX9_encode 304 = .ok (.iaload, 1) := by decide +kernel
theorem dX9_encode_305 : decode cX9_encode 305 = .ok (.aload_n 0, 1) := by decide +kernel
theorem dX9_encode_306 : decode cX9_encode 306 = .ok (.getfield 112, 3) := by decide +kernel
theorem dX9_encode_309 : decode cX9_encode 309 = .ok (.iload_n 2, 1) := by decide +kernel
theorem dX9_encode_310 : decode cX9_encode 310 = .ok (.iload 5, 2) := by decide +kernel
theorem dX9_encode_312 : decode cX9_encode 312 = .ok (.iadd, 1) := by decide +kernel
theorem dX9_encode_313 : decode cX9_encode 313 = .ok (.iaload, 1) := by decide +kernel
theorem dX9_encode_314 : decode cX9_encode 314 = .ok (.aload_n 0, 1) := by decide +kernel
theorem dX9_encode_315 : decode cX9_encode 315 = .ok (.getfield 115, 3) := by decide +kernel
theorem dX9_encode_318 : decode cX9_encode 318 = .ok (.iload_n 2, 1) := by decide +kernel
theorem dX9_encode_319 : decode cX9_encode 319 = .ok (.iload 5, 2) := by decide +kernel
theorem dX9_encode_321 : decode cX9_encode 321 = .ok (.iadd, 1) := by decide +kernel
theorem dX9_encode_322 : decode cX9_encode 322 = .ok (.iaload, 1) := by decide +kernel
theorem dX9_encode_323 : decode cX9_encode 323 = .ok (.iload_n 3, 1) := by decide +kernel
theorem dX9_encode_324 : decode cX9_encode 324 = .ok (.iload_n 1, 1) := by decide +kernel
theorem dX9_encode_325 : decode cX9_encode 325 = .ok (.invokevirtual 320, 3) := by decide +kernel
theorem dX9_encode_328 : decode cX9_encode 328 = .ok (.iinc 5 1, 3) := by decide +kernel
theorem dX9_encode_331 : decode cX9_encode 331 = .ok (.goto (-59), 3) := by decide +kernel
theorem dX9_encode_334 : decode cX9_encode 334 = .ok (.iload_n 2, 1) := by decide +kernel
theorem dX9_encode_335 : decode cX9_encode 335 = .ok (.iload 4, 2) := by decide +kernel
theorem dX9_encode_337 : decode cX9_encode 337 = .ok (.iadd, 1) := by decide +kernel
theorem dX9_encode_338 : decode cX9_encode 338 = .ok (.istore_n 2, 1) := by decide +kernel
theorem dX9_encode_339 : decode cX9_encode 339 = .ok (.goto (-187), 3) := by decide +kernel
theorem dX9_encode_342 : decode cX9_encode 342 = .ok (.iconst 1, 1) := by decide +kernel
theorem dX9_encode_343 : decode cX9_encode 343 = .ok (.ireturn, 1) := by decide +kernel
theorem dX9_putWindow_0 : decode cX9_putWindow 0 = .ok (.aload_n 0, 1) := by decide +kernel
theorem dX9_putWindow_1 : decode cX9_putWindow 1 = .ok (.iload_n 1, 1) := by decide +kernel
theorem dX9_putWindow_2 : decode cX9_putWindow 2 = .ok (.invokevirtual 353, 3) := by decide +kernel
theorem dX9_putWindow_5 : decode cX9_putWindow 5 = .ok (.iload_n 1, 1) := by decide +kernel
theorem dX9_putWindow_6 : decode cX9_putWindow 6 = .ok (.ifCond .le 17, 3) := by decide +kernel
theorem dX9_putWindow_9 : decode cX9_putWindow 9 = .ok (.aload_n 0, 1) := by decide +kernel
theorem dX9_putWindow_10 : decode cX9_putWindow 10 = .ok (.aload_n 0, 1) := by decide +kernel
theorem dX9_putWindow_11 : decode cX9_putWindow 11 = .ok (.getfield 365, 3) := by decide +kernel
theorem dX9_putWindow_14 : decode cX9_putWindow 14 = .ok (.i2l, 1) := by decide +kernel
theorem dX9_putWindow_15 : decode cX9_putWindow 15 = .ok (.invokevirtual 400, 3) := by decide +kernel
theorem dX9_putWindow_18 : decode cX9_putWindow 18 = .ok (.aload_n 0, 1) := by decide +kernel
theorem dX9_putWindow_19 : decode cX9_putWindow 19 = .ok (.lconst 0, 1) := by decide +kernel
theorem dX9_putWindow_20 : decode cX9_putWindow 20 = .ok (.invokevirtual 400, 3) := by decide +kernel
theorem dX9_putWindow_23 : decode cX9_putWindow 23 = .ok (.aload_n 0, 1) := by decide +kernel
theorem dX9_putWindow_24 : decode cX9_putWindow 24 = .ok (.getfield 362, 3) := by decide +kernel
theorem dX9_putWindow_27 : decode cX9_putWindow 27 = .ok (.aload_n 0, 1) := by decide +kernel
theorem dX9_putWindow_28 : decode cX9_putWindow 28 = .ok (.getfield 365, 3) := by decide +kernel
theorem dX9_putWindow_31 : decode cX9_putWindow 31 = .ok (.isub, 1) := by decide +kernel
theorem dX9_putWindow_32 : decode cX9_putWindow 32 = .ok (.istore_n 2, 1) := by decide +kernel
theorem dX9_putWindow_33 : decode cX9_putWindow 33 = .ok (.aload_n 0, 1) := by decide +kernel
theorem dX9_putWindow_34 : decode cX9_putWindow 34 = .ok (.iload_n 2, 1) := by decide +kernel
theorem dX9_putWindow_35 : decode cX9_putWindow 35 = .ok (.i2l, 1) := by decide +kernel
theorem dX9_putWindow_36 : decode cX9_putWindow 36 = .ok (.invokestatic 349, 3) := by decide +kernel
theorem dX9_putWindow_39 : decode cX9_putWindow 39 = .ok (.iconst 1, 1) := by decide +kernel
theorem dX9_putWindow_40 : decode cX9_putWindow 40 = .ok (.iadd, 1) := by decide +kernel
theorem dX9_putWindow_41 : decode cX9_putWindow 41 = .ok (.aload_n 0, 1) := by decide +kernel
theorem dX9_putWindow_42 : decode cX9_putWindow 42 = .ok (.getfield 388, 3) := by decide +kernel
theorem dX9_putWindow_45 : decode cX9_putWindow 45 = .ok (.i2l, 1) := by decide +kernel
theorem dX9_putWindow_46 : decode cX9_putWindow 46 = .ok (.invokestatic 349, 3) := by decide +kernel
theorem dX9_putWindow_49 : decode cX9_putWindow 49 = .ok (.iadd, 1) := by decide +kernel
theorem dX9_putWindow_50 : decode cX9_putWindow 50 = .ok (.aload_n 0, 1) := by decide +kernel
theorem dX9_putWindow_51 : decode cX9_putWindow 51 = .ok (.getfield 385, 3) := by decide +kernel
theorem dX9_putWindow_54 : decode cX9_putWindow 54 = .ok (.i2l, 1) := by decide +kernel
theorem dX9_putWindow_55 : decode cX9_putWindow 55 = .ok (.invokestatic 349, 3) := by decide +kernel
theorem dX9_putWindow_58 : decode cX9_putWindow 58 = .ok (.iadd, 1) := by decide +kernel
theorem dX9_putWindow_59 : decode cX9_putWindow 59 = .ok (.aload_n 0, 1) := by decide +kernel
theorem dX9_putWindow_60 : decode cX9_putWindow 60 = .ok (.getfield 375, 3) := by decide +kernel
theorem dX9_putWindow_63 : decode cX9_putWindow 63 = .ok (.i2l, 1) := by decide +kernel
theorem dX9_putWindow_64 : decode cX9_putWindow 64 = .ok (.invokestatic 349, 3) := by decide +kernel
theorem dX9_putWindow_67 : decode cX9_putWindow 67 = .ok (.iadd, 1) := by decide +kernel
theorem dX9_putWindow_68 : decode cX9_putWindow 68 = .ok (.aload_n 0, 1) := by decide +kernel
theorem dX9_putWindow_69 : decode cX9_putWindow 69 = .ok (.getfield 388, 3) := by decide +kernel
theorem dX9_putWindow_72 : decode cX9_putWindow 72 = .ok (.iadd, 1) := by decide +kernel
theorem dX9_putWindow_73 : decode cX9_putWindow 73 = .ok (.aload_n 0, 1) := by decide +kernel
theorem dX9_putWindow_74 : decode cX9_putWindow 74 = .ok (.getfield 385, 3) := by decide +kernel
theorem dX9_putWindow_77 : decode cX9_putWindow 77 = .ok (.iadd, 1) := by decide +kernel
theorem dX9_putWindow_78 : decode cX9_putWindow 78 = .ok (.aload_n 0, 1) := by decide +kernel
theorem dX9_putWindow_79 : decode cX9_putWindow 79 = .ok (.getfield 375, 3) := by decide +kernel
theorem dX9_putWindow_82 : decode cX9_putWindow 82 = .ok (.iadd, 1) := by decide +kernel
theorem dX9_putWindow_83 : decode cX9_putWindow 83 = .ok (.i2l, 1) := by decide +kernel
theorem dX9_putWindow_84 : decode cX9_putWindow 84 = .ok (.invokevirtual 400, 3) := by decide +kernel
theorem dX9_putWindow_87 : decode cX9_putWindow 87 = .ok (.aload_n 0, 1) := by decide +kernel
theorem dX9_putWindow_88 : decode cX9_putWindow 88 = .ok (.iload_n 2, 1) := by decide +kernel
theorem dX9_putWindow_89 : decode cX9_putWindow 89 = .ok (.i2l, 1) := by decide +kernel
theorem dX9_putWindow_90 : decode cX9_putWindow 90 = .ok (.invokevirtual 400, 3) := by decide +kernel
theorem dX9_putWindow_93 : decode cX9_putWindow 93 = .ok (.aload_n 0, 1) := by decide +kernel
theorem dX9_putWindow_94 : decode cX9_putWindow 94 = .ok (.iconst 0, 1) := by decide +kernel
theorem dX9_putWindow_95 : decode cX9_putWindow 95 = .ok (.invokevirtual 353, 3) := by decide +kernel
theorem dX9_putWindow_98 : decode cX9_putWindow 98 = .ok (.aload_n 0, 1) := by decide +kernel
theorem dX9_putWindow_99 : decode cX9_putWindow 99 = .ok (.aload_n 0, 1) := by decide +kernel
theorem dX9_putWindow_100 : decode cX9_putWindow 100 = .ok (.getfield 388, 3) := by decide +kernel
theorem dX9_putWindow_103 : decode cX9_putWindow 103 = .ok (.i2l, 1) := by decide +kernel
theorem dX9_putWindow_104 : decode cX9_putWindow 104 = .ok (.invokevirtual 400, 3) := by decide +kernel
theorem dX9_putWindow_107 : decode cX9_putWindow 107 = .ok (.aload_n 0, 1) := by decide +kernel
theorem dX9_putWindow_108 : decode cX9_putWindow 108 = .ok (.aload_n 0, 1) := by decide +kernel
theorem dX9_putWindow_109 : decode cX9_putWindow 109 = .ok (.getfield 385, 3) := by decide +kernel
theorem dX9_putWindow_112 : decode cX9_putWindow 112 = .ok (.i2l, 1) := by decide +kernel
theorem dX9_putWindow_113 : decode cX9_putWindow 113 = .ok (.invokevirtual 400, 3) := by decide +kernel
theorem dX9_putWindow_116 : decode cX9_putWindow 116 = .ok (.aload_n 0, 1) := by decide +kernel
theorem dX9_putWindow_117 : decode cX9_putWindow 117 = .ok (.aload_n 0, 1) := by decide +kernel
theorem dX9_putWindow_118 : decode cX9_putWindow 118 = .ok (.getfield 375, 3) := by decide +kernel
theorem dX9_putWindow_121 : decode cX9_putWindow 121 = .ok (.i2l, 1) := by decide +kernel
theorem dX9_putWindow_122 : decode cX9_putWindow 122 = .ok (.invokevirtual 400, 3) := by decide +kernel
theorem dX9_putWindow_125 : decode cX9_putWindow 125 = .ok (.iconst 0, 1) := by decide +kernel
theorem dX9_putWindow_126 : decode cX9_putWindow 126 = .ok (.istore_n 3, 1) := by decide +kernel
theorem dX9_putWindow_127 : decode cX9_putWindow 127 = .ok (.iload_n 3, 1) := by decide +kernel
theorem dX9_putWindow_128 : decode cX9_putWindow 128 = .ok (.aload_n 0, 1) := by decide +kernel
theorem dX9_putWindow_129 : decode cX9_putWindow 129 = .ok (.getfield 388, 3) := by decide +kernel
theorem dX9_putWindow_132 : decode cX9_putWindow 132 = .ok (.if_icmp .ge 19, 3) := by decide +kernel
theorem dX9_putWindow_135 : decode cX9_putWindow 135 = .ok (.aload_n 0, 1) := by decide +kernel
theorem dX9_putWindow_136 : decode cX9_putWindow 136 = .ok (.aload_n 0, 1) := by decide +kernel
theorem dX9_putWindow_137 : decode cX9_putWindow 137 = .ok (.getfield 91, 3) := by decide +kernel
theorem dX9_putWindow_140 : decode cX9_putWindow 140 = .ok (.iload_n 3, 1) := by decide +kernel
theorem dX9_putWindow_141 : decode cX9_putWindow 141 = .ok (.baload, 1) := by decide +kernel
theorem dX9_putWindow_142 : decode cX9_putWindow 142 = .ok (.invokevirtual 353, 3) := by decide +kernel
theorem dX9_putWindow_145 : decode cX9_putWindow 145 = .ok (.iinc 3 1, 3) := by decide +kernel
theorem dX9_putWindow_148 : decode cX9_putWindow 148 = .ok (.goto (-21), 3) := by decide +kernel
theorem dX9_putWindow_151 : decode cX9_putWindow 151 = .ok (.iconst 0, 1) := by decide +kernel
theorem dX9_putWindow_152 : decode cX9_putWindow 152 = .ok (.istore_n 3, 1) := by decide +kernel
theorem dX9_putWindow_153 : decode cX9_putWindow 153 = .ok (.iload_n 3, 1) := by decide +kernel
theorem dX9_putWindow_154 : decode cX9_putWindow 154 = .ok (.aload_n 0, 1) := by decide +kernel
theorem dX9_putWindow_155 : decode cX9_putWindow 155 = .ok (.getfield 385, 3) := by decide +kernel
theorem dX9_putWindow_158 : decode cX9_putWindow 158 = .ok (.if_icmp .ge 19, 3) := by decide +kernel
theorem dX9_putWindow_161 : decode cX9_putWindow 161 = .ok (.aload_n 0, 1) := by decide +kernel
theorem dX9_putWindow_162 : decode cX9_putWindow 162 = .ok (.aload_n 0, 1) := by decide +kernel
theorem dX9_putWindow_163 : decode cX9_putWindow 163 = .ok (.getfield 94, 3) := by decide +kernel
theorem dX9_putWindow_166 : decode cX9_putWindow 166 = .ok (.iload_n 3, 1) := by decide +kernel
theorem dX9_putWindow_167 : decode cX9_putWindow 167 = .ok (.baload, 1) := by decide +kernel
theorem dX9_putWindow_168 : decode cX9_putWindow 168 = .ok (.invokevirtual 353, 3) := by decide +kernel
theorem dX9_putWindow_171 : decode cX9_putWindow 171 = .ok (.iinc 3 1, 3) := by decide +kernel
theorem dX9_putWindow_174 : decode cX9_putWindow 174 = .ok (.goto (-21), 3) := by decide +kernel
theorem dX9_putWindow_177 : decode cX9_putWindow 177 = .ok (.iconst 0, 1) := by decide +kernel
theorem dX9_putWindow_178 : decode cX9_putWindow 178 = .ok (.istore_n 3, 1) := by decide +kernel
theorem dX9_putWindow_179 : decode cX9_putWindow 179 = .ok (.iload_n 3, 1) := by decide +kernel
theorem dX9_putWindow_180 : decode cX9_putWindow 180 = .ok (.aload_n 0, 1) := by decide +kernel
theorem dX9_putWindow_181 : decode cX9_putWindow 181 = .ok (.getfield 375, 3) := by decide +kernel
theorem dX9_putWindow_184 : decode cX9_putWindow 184 = .ok (.if_icmp .ge 19, 3) := by decide +kernel
theorem dX9_putWindow_187 : decode cX9_putWindow 187 = .ok (.aload_n 0, 1) := by decide +kernel
theorem dX9_putWindow_188 : decode cX9_putWindow 188 = .ok (.aload_n 0, 1) := by decide +kernel
theorem dX9_putWindow_189 : decode cX9_putWindow 189 = .ok (.getfield 97, 3) := by decide +kernel
theorem dX9_putWindow_192 : decode cX9_putWindow 192 = .ok (.iload_n 3, 1) := by decide +kernel
theorem dX9_putWindow_193 : decode cX9_putWindow 193 = .ok (.baload, 1) := by decide +kernel
theorem dX9_putWindow_194 : decode cX9_putWindow 194 = .ok (.invokevirtual 353, 3) := by decide +kernel
theorem dX9_putWindow_197 : decode cX9_putWindow 197 = .ok (.iinc 3 1, 3) := by decide +kernel
theorem dX9_putWindow_200 : decode cX9_putWindow 200 = .ok (.goto (-21), 3) := by decide +kernel
theorem dX9_putWindow_203 : decode cX9_putWindow 203 = .ok (.return_, 1) := by decide +kernel
theorem dX9_head_0 : decode cX9_head 0 = .ok (.aload_n 0, 1) := by decide +kernel
theorem dX9_head_1 : decode cX9_head 1 = .ok (.sipush 214, 3) := by decide +kernel
theorem dX9_head_4 : decode cX9_head 4 = .ok (.invokevirtual 353, 3) := by decide +kernel
theorem dX9_head_7 : decode cX9_head 7 = .ok (.aload_n 0, 1) := by decide +kernel
theorem dX9_head_8 : decode cX9_head 8 = .ok (.sipush 195, 3) := by decide +kernel
theorem dX9_head_11 : decode cX9_head 11 = .ok (.invokevirtual 353, 3) := by decide +kernel
theorem dX9_head_14 : decode cX9_head 14 = .ok (.aload_n 0, 1) := by decide +kernel
theorem dX9_head_15 : decode cX9_head 15 = .ok (.sipush 196, 3) := by decide +kernel
theorem dX9_head_18 : decode cX9_head 18 = .ok (.invokevirtual 353, 3) := by decide +kernel
theorem dX9_head_21 : decode cX9_head 21 = .ok (.aload_n 0, 1) := by decide +kernel
theorem dX9_head_22 : decode cX9_head 22 = .ok (.iconst 0, 1) := by decide +kernel
theorem dX9_head_23 : decode cX9_head 23 = .ok (.invokevirtual 353, 3) := by decide +kernel
theorem dX9_head_26 : decode cX9_head 26 = .ok (.aload_n 0, 1) := by decide +kernel
theorem dX9_head_27 : decode cX9_head 27 = .ok (.iload_n 1, 1) := by decide +kernel
theorem dX9_head_28 : decode cX9_head 28 = .ok (.invokevirtual 353, 3) := by decide +kernel
theorem dX9_head_31 : decode cX9_head 31 = .ok (.return_, 1) := by decide +kernel
theorem dX9_putTable_0 : decode cX9_putTable 0 = .ok (.aload_n 0, 1) := by decide +kernel
theorem dX9_putTable_1 : decode cX9_putTable 1 = .ok (.getfield 346, 3) := by decide +kernel
theorem dX9_putTable_4 : decode cX9_putTable 4 = .ok (.istore_n 1, 1) := by decide +kernel
theorem dX9_putTable_5 : decode cX9_putTable 5 = .ok (.aload_n 0, 1) := by decide +kernel
theorem dX9_putTable_6 : decode cX9_putTable 6 = .ok (.aload_n 0, 1) := by decide +kernel
theorem dX9_putTable_7 : decode cX9_putTable 7 = .ok (.getfield 17, 3) := by decide +kernel
theorem dX9_putTable_10 : decode cX9_putTable 10 = .ok (.iconst 4, 1) := by decide +kernel
theorem dX9_putTable_11 : decode cX9_putTable 11 = .ok (.iconst 3, 1) := by decide +kernel
theorem dX9_putTable_12 : decode cX9_putTable 12 = .ok (.invokevirtual 213, 3) := by decide +kernel
theorem dX9_putTable_15 : decode cX9_putTable 15 = .ok (.aload_n 0, 1) := by decide +kernel
theorem dX9_putTable_16 : decode cX9_putTable 16 = .ok (.iconst 0, 1) := by decide +kernel
theorem dX9_putTable_17 : decode cX9_putTable 17 = .ok (.putfield 224, 3) := by decide +kernel
theorem dX9_putTable_20 : decode cX9_putTable 20 = .ok (.aload_n 0, 1) := by decide +kernel
theorem dX9_putTable_21 : decode cX9_putTable 21 = .ok (.iconst 0, 1) := by decide +kernel
theorem dX9_putTable_22 : decode cX9_putTable 22 = .ok (.invokevirtual 403, 3) := by decide +kernel
theorem dX9_putTable_25 : decode cX9_putTable 25 = .ok (.iconst 0, 1) := by decide +kernel
theorem dX9_putTable_26 : decode cX9_putTable 26 = .ok (.istore_n 2, 1) := by decide +kernel
theorem dX9_putTable_27 : decode cX9_putTable 27 = .ok (.iload_n 2, 1) := by decide +kernel
theorem dX9_putTable_28 : decode cX9_putTable 28 = .ok (.sipush 1536, 3) := by decide +kernel
theorem dX9_putTable_31 : decode cX9_putTable 31 = .ok (.if_icmp .ge 37, 3) := by decide +kernel
theorem dX9_putTable_34 : decode cX9_putTable 34 = .ok (.aload_n 0, 1) := by decide +kernel
theorem dX9_putTable_35 : decode cX9_putTable 35 = .ok (.getfield 100, 3) := by decide +kernel
theorem dX9_putTable_38 : decode cX9_putTable 38 = .ok (.iload_n 2, 1) := by decide +kernel
theorem dX9_putTable_39 : decode cX9_putTable 39 = .ok (.aload_n 0, 1) := by decide +kernel
theorem dX9_putTable_40 : decode cX9_putTable 40 = .ok (.getfield 17, 3) := by decide +kernel
theorem dX9_putTable_43 : decode cX9_putTable 43 = .ok (.iload_n 2, 1) := by decide +kernel
theorem dX9_putTable_44 : decode cX9_putTable 44 = .ok (.baload, 1) := by decide +kernel
theorem dX9_putTable_45 : decode cX9_putTable 45 = .ok (.bastore, 1) := by decide +kernel
theorem dX9_putTable_46 : decode cX9_putTable 46 = .ok (.aload_n 0, 1) := by decide +kernel
theorem dX9_putTable_47 : decode cX9_putTable 47 = .ok (.getfield 100, 3) := by decide +kernel
theorem dX9_putTable_50 : decode cX9_putTable 50 = .ok (.sipush 1536, 3) := by decide +kernel
theorem dX9_putTable_53 : decode cX9_putTable 53 = .ok (.iload_n 2, 1) := by decide +kernel
theorem dX9_putTable_54 : decode cX9_putTable 54 = .ok (.iadd, 1) := by decide +kernel
theorem dX9_putTable_55 : decode cX9_putTable 55 = .ok (.aload_n 0, 1) := by decide +kernel
theorem dX9_putTable_56 : decode cX9_putTable 56 = .ok (.getfield 20, 3) := by decide +kernel
theorem dX9_putTable_59 : decode cX9_putTable 59 = .ok (.iload_n 2, 1) := by decide +kernel
theorem dX9_putTable_60 : decode cX9_putTable 60 = .ok (.baload, 1) := by decide +kernel
theorem dX9_putTable_61 : decode cX9_putTable 61 = .ok (.bastore, 1) := by decide +kernel
theorem dX9_putTable_62 : decode cX9_putTable 62 = .ok (.iinc 2 1, 3) := by decide +kernel
theorem dX9_putTable_65 : decode cX9_putTable 65 = .ok (.goto (-38), 3) := by decide +kernel
theorem dX9_putTable_68 : decode cX9_putTable 68 = .ok (.aload_n 0, 1) := by decide +kernel
theorem dX9_putTable_69 : decode cX9_putTable 69 = .ok (.sipush 1536, 3) := by decide +kernel
theorem dX9_putTable_72 : decode cX9_putTable 72 = .ok (.putfield 365, 3) := by decide +kernel
theorem dX9_putTable_75 : decode cX9_putTable 75 = .ok (.aload_n 0, 1) := by decide +kernel
theorem dX9_putTable_76 : decode cX9_putTable 76 = .ok (.sipush 3072, 3) := by decide +kernel
theorem dX9_putTable_79 : decode cX9_putTable 79 = .ok (.putfield 362, 3) := by decide +kernel
theorem dX9_putTable_82 : decode cX9_putTable 82 = .ok (.aload_n 0, 1) := by decide +kernel
theorem dX9_putTable_83 : decode cX9_putTable 83 = .ok (.iconst 1, 1) := by decide +kernel
theorem dX9_putTable_84 : decode cX9_putTable 84 = .ok (.invokevirtual 406, 3) := by decide +kernel
theorem dX9_putTable_87 : decode cX9_putTable 87 = .ok (.aload_n 0, 1) := by decide +kernel
theorem dX9_putTable_88 : decode cX9_putTable 88 = .ok (.iconst 0, 1) := by decide +kernel
theorem dX9_putTable_89 : decode cX9_putTable 89 = .ok (.invokevirtual 409, 3) := by decide +kernel
theorem dX9_putTable_92 : decode cX9_putTable 92 = .ok (.istore_n 2, 1) := by decide +kernel
theorem dX9_putTable_93 : decode cX9_putTable 93 = .ok (.aload_n 0, 1) := by decide +kernel
theorem dX9_putTable_94 : decode cX9_putTable 94 = .ok (.iconst 1, 1) := by decide +kernel
theorem dX9_putTable_95 : decode cX9_putTable 95 = .ok (.invokevirtual 413, 3) := by decide +kernel
theorem dX9_putTable_98 : decode cX9_putTable 98 = .ok (.aload_n 0, 1) := by decide +kernel
theorem dX9_putTable_99 : decode cX9_putTable 99 = .ok (.iconst 1, 1) := by decide +kernel
theorem dX9_putTable_100 : decode cX9_putTable 100 = .ok (.putfield 224, 3) := by decide +kernel
theorem dX9_putTable_103 : decode cX9_putTable 103 = .ok (.aload_n 0, 1) := by decide +kernel
theorem dX9_putTable_104 : decode cX9_putTable 104 = .ok (.getfield 346, 3) := by decide +kernel
theorem dX9_putTable_107 : decode cX9_putTable 107 = .ok (.iload_n 1, 1) := by decide +kernel
theorem dX9_putTable_108 : decode cX9_putTable 108 = .ok (.isub, 1) := by decide +kernel
theorem dX9_putTable_109 : decode cX9_putTable 109 = .ok (.istore_n 3, 1) := by decide +kernel
theorem dX9_putTable_110 : decode cX9_putTable 110 = .ok (.iconst 0, 1) := by decide +kernel
theorem dX9_putTable_111 : decode cX9_putTable 111 = .ok (.istore 4, 2) := by decide +kernel
theorem dX9_putTable_113 : decode cX9_putTable 113 = .ok (.iload 4, 2) := by decide +kernel
theorem dX9_putTable_115 : decode cX9_putTable 115 = .ok (.iload_n 3, 1) := by decide +kernel
theorem dX9_putTable_116 : decode cX9_putTable 116 = .ok (.if_icmp .ge 25, 3) := by decide +kernel
theorem dX9_putTable_119 : decode cX9_putTable 119 = .ok (.aload_n 0, 1) := by decide +kernel
theorem dX9_putTable_120 : decode cX9_putTable 120 = .ok (.getfield 118, 3) := by decide +kernel
theorem dX9_putTable_123 : decode cX9_putTable 123 = .ok (.iload 4, 2) := by decide +kernel
theorem dX9_putTable_125 : decode cX9_putTable 125 = .ok (.aload_n 0, 1) := by decide +kernel
theorem dX9_putTable_126 : decode cX9_putTable 126 = .ok (.getfield 88, 3) := by decide +kernel
theorem dX9_putTable_129 : decode cX9_putTable 129 = .ok (.iload_n 1, 1) := by decide +kernel
theorem dX9_putTable_130 : decode cX9_putTable 130 = .ok (.iload 4, 2) := by decide +kernel
theorem dX9_putTable_132 : decode cX9_putTable 132 = .ok (.iadd, 1) := by decide +kernel
theorem dX9_putTable_133 : decode cX9_putTable 133 = .ok (.baload, 1) := by decide +kernel
theorem dX9_putTable_134 : decode cX9_putTable 134 = .ok (.bastore, 1) := by decide +kernel
theorem dX9_putTable_135 : decode cX9_putTable 135 = .ok (.iinc 4 1, 3) := by decide +kernel
theorem dX9_putTable_138 : decode cX9_putTable 138 = .ok (.goto (-25), 3) := by decide +kernel
theorem dX9_putTable_141 : decode cX9_putTable 141 = .ok (.aload_n 0, 1) := by decide +kernel
theorem dX9_putTable_142 : decode cX9_putTable 142 = .ok (.iload_n 1, 1) := by decide +kernel
theorem dX9_putTable_143 : decode cX9_putTable 143 = .ok (.putfield 346, 3) := by decide +kernel
theorem dX9_putTable_146 : decode cX9_putTable 146 = .ok (.aload_n 0, 1) := by decide +kernel
theorem dX9_putTable_147 : decode cX9_putTable 147 = .ok (.iload_n 3, 1) := by decide +kernel
theorem dX9_putTable_148 : decode cX9_putTable 148 = .ok (.iconst 2, 1) := by decide +kernel
theorem dX9_putTable_149 : decode cX9_putTable 149 = .ok (.iadd, 1) := by decide +kernel
theorem dX9_putTable_150 : decode cX9_putTable 150 = .ok (.i2l, 1) := by decide +kernel
theorem dX9_putTable_151 : decode cX9_putTable 151 = .ok (.invokevirtual 400, 3) := by decide +kernel
theorem dX9_putTable_154 : decode cX9_putTable 154 = .ok (.aload_n 0, 1) := by decide +kernel
theorem dX9_putTable_155 : decode cX9_putTable 155 = .ok (.aload_n 0, 1) := by decide +kernel
theorem dX9_putTable_156 : decode cX9_putTable 156 = .ok (.getfield 23, 3) := by decide +kernel
theorem dX9_putTable_159 : decode cX9_putTable 159 = .ok (.invokevirtual 353, 3) := by decide +kernel
theorem dX9_putTable_162 : decode cX9_putTable 162 = .ok (.aload_n 0, 1) := by decide +kernel
theorem dX9_putTable_163 : decode cX9_putTable 163 = .ok (.aload_n 0, 1) := by decide +kernel
theorem dX9_putTable_164 : decode cX9_putTable 164 = .ok (.getfield 27, 3) := by decide +kernel
theorem dX9_putTable_167 : decode cX9_putTable 167 = .ok (.invokevirtual 353, 3) := by decide +kernel
theorem dX9_putTable_170 : decode cX9_putTable 170 = .ok (.iconst 0, 1) := by decide +kernel
theorem dX9_putTable_171 : decode cX9_putTable 171 = .ok (.istore 4, 2) := by decide +kernel
theorem dX9_putTable_173 : decode cX9_putTable 173 = .ok (.iload 4, 2) := by decide +kernel
theorem dX9_putTable_175 : decode cX9_putTable 175 = .ok (.iload_n 3, 1) := by decide +kernel
theorem dX9_putTable_176 : decode cX9_putTable 176 = .ok (.if_icmp .ge 20, 3) := by decide +kernel
theorem dX9_putTable_179 : decode cX9_putTable 179 = .ok (.aload_n 0, 1) := by decide +kernel
theorem dX9_putTable_180 : decode cX9_putTable 180 = .ok (.aload_n 0, 1) := by decide +kernel
theorem dX9_putTable_181 : decode cX9_putTable 181 = .ok (.getfield 118, 3) := by decide +kernel
theorem dX9_putTable_184 : decode cX9_putTable 184 = .ok (.iload 4, 2) := by decide +kernel
theorem dX9_putTable_186 : decode cX9_putTable 186 = .ok (.baload, 1) := by decide +kernel
theorem dX9_putTable_187 : decode cX9_putTable 187 = .ok (.invokevirtual 353, 3) := by decide +kernel
theorem dX9_putTable_190 : decode cX9_putTable 190 = .ok (.iinc 4 1, 3) := by decide +kernel
theorem dX9_putTable_193 : decode cX9_putTable 193 = .ok (.goto (-20), 3) := by decide +kernel
theorem dX9_putTable_196 : decode cX9_putTable 196 = .ok (.aload_n 0, 1) := by decide +kernel
theorem dX9_putTable_197 : decode cX9_putTable 197 = .ok (.aload_n 0, 1) := by decide +kernel
theorem dX9_putTable_198 : decode cX9_putTable 198 = .ok (.getfield 20, 3) := by decide +kernel
theorem dX9_putTable_201 : decode cX9_putTable 201 = .ok (.aload_n 0, 1) := by decide +kernel
theorem dX9_putTable_202 : decode cX9_putTable 202 = .ok (.getfield 23, 3) := by decide +kernel
theorem dX9_putTable_205 : decode cX9_putTable 205 = .ok (.aload_n 0, 1) := by decide +kernel
theorem dX9_putTable_206 : decode cX9_putTable 206 = .ok (.getfield 27, 3) := by decide +kernel
theorem dX9_putTable_209 : decode cX9_putTable 209 = .ok (.invokevirtual 213, 3) := by decide +kernel
theorem dX9_putTable_212 : decode cX9_putTable 212 = .ok (.return_, 1) := by decide +kernel
theorem dX9_write_0 : decode cX9_write 0 = .ok (.aload_n 0, 1) := by decide +kernel
theorem dX9_write_1 : decode cX9_write 1 = .ok (.iconst 0, 1) := by decide +kernel
theorem dX9_write_2 : decode cX9_write 2 = .ok (.putfield 131, 3) := by decide +kernel
theorem dX9_write_5 : decode cX9_write 5 = .ok (.iload_n 1, 1) := by decide +kernel
theorem dX9_write_6 : decode cX9_write 6 = .ok (.i2l, 1) := by decide +kernel
theorem dX9_write_7 : decode cX9_write 7 = .ok (.lconst 0, 1) := by decide +kernel
theorem dX9_write_8 : decode cX9_write 8 = .ok (.ldc2_w 211, 3) := by decide +kernel
theorem dX9_write_11 : decode cX9_write 11 = .ok (.invokestatic 136, 3) := by decide +kernel
theorem dX9_write_14 : decode cX9_write 14 = .ok (.ifCond .eq 55, 3) := by decide +kernel
theorem dX9_write_17 : decode cX9_write 17 = .ok (.iload_n 2, 1) := by decide +kernel
theorem dX9_write_18 : decode cX9_write 18 = .ok (.i2l, 1) := by decide +kernel
theorem dX9_write_19 : decode cX9_write 19 = .ok (.lconst 0, 1) := by decide +kernel
theorem dX9_write_20 : decode cX9_write 20 = .ok (.ldc2_w 211, 3) := by decide +kernel
theorem dX9_write_23 : decode cX9_write 23 = .ok (.invokestatic 136, 3) := by decide +kernel
theorem dX9_write_26 : decode cX9_write 26 = .ok (.ifCond .eq 43, 3) := by decide +kernel
theorem dX9_write_29 : decode cX9_write 29 = .ok (.iload_n 3, 1) := by decide +kernel
theorem dX9_write_30 : decode cX9_write 30 = .ok (.i2l, 1) := by decide +kernel
theorem dX9_write_31 : decode cX9_write 31 = .ok (.ldc2_w 416, 3) := by decide +kernel
theorem dX9_write_34 : decode cX9_write 34 = .ok (.ldc2_w 255, 3) := by decide +kernel
theorem dX9_write_37 : decode cX9_write 37 = .ok (.invokestatic 136, 3) := by decide +kernel
theorem dX9_write_40 : decode cX9_write 40 = .ok (.ifCond .eq 29, 3) := by decide +kernel
theorem dX9_write_43 : decode cX9_write 43 = .ok (.iload 4, 2) := by decide +kernel
theorem dX9_write_45 : decode cX9_write 45 = .ok (.ifCond .eq 27, 3) := by decide +kernel
theorem dX9_write_48 : decode cX9_write 48 = .ok (.aload_n 0, 1) := by decide +kernel
theorem dX9_write_49 : decode cX9_write 49 = .ok (.getfield 20, 3) := by decide +kernel
theorem dX9_write_52 : decode cX9_write 52 = .ok (.aload_n 0, 1) := by decide +kernel
theorem dX9_write_53 : decode cX9_write 53 = .ok (.getfield 23, 3) := by decide +kernel
theorem dX9_write_56 : decode cX9_write 56 = .ok (.aload_n 0, 1) := by decide +kernel
theorem dX9_write_57 : decode cX9_write 57 = .ok (.getfield 27, 3) := by decide +kernel
theorem dX9_write_60 : decode cX9_write 60 = .ok (.iadd, 1) := by decide +kernel
theorem dX9_write_61 : decode cX9_write 61 = .ok (.iconst 2, 1) := by decide +kernel
theorem dX9_write_62 : decode cX9_write 62 = .ok (.iadd, 1) := by decide +kernel
theorem dX9_write_63 : decode cX9_write 63 = .ok (.invokestatic 160, 3) := by decide +kernel
theorem dX9_write_66 : decode cX9_write 66 = .ok (.ifCond .ne 6, 3) := by decide +kernel
theorem dX9_write_69 : decode cX9_write 69 = .ok (.bipush (-2), 2) := by decide +kernel
theorem dX9_write_71 : decode cX9_write 71 = .ok (.ireturn, 1) := by decide +kernel
theorem dX9_write_72 : decode cX9_write 72 = .ok (.aload_n 0, 1) := by decide +kernel
theorem dX9_write_73 : decode cX9_write 73 = .ok (.iconst 0, 1) := by decide +kernel
theorem dX9_write_74 : decode cX9_write 74 = .ok (.putfield 346, 3) := by decide +kernel
theorem dX9_write_77 : decode cX9_write 77 = .ok (.aload_n 0, 1) := by decide +kernel
theorem dX9_write_78 : decode cX9_write 78 = .ok (.iconst 0, 1) := by decide +kernel
theorem dX9_write_79 : decode cX9_write 79 = .ok (.putfield 173, 3) := by decide +kernel
theorem dX9_write_82 : decode cX9_write 82 = .ok (.aload_n 0, 1) := by decide +kernel
theorem dX9_write_83 : decode cX9_write 83 = .ok (.iconst 1, 1) := by decide +kernel
theorem dX9_write_84 : decode cX9_write 84 = .ok (.putfield 224, 3) := by decide +kernel
theorem dX9_write_87 : decode cX9_write 87 = .ok (.aload_n 0, 1) := by decide +kernel
theorem dX9_write_88 : decode cX9_write 88 = .ok (.aload_n 0, 1) := by decide +kernel
theorem dX9_write_89 : decode cX9_write 89 = .ok (.getfield 17, 3) := by decide +kernel
theorem dX9_write_92 : decode cX9_write 92 = .ok (.iconst 4, 1) := by decide +kernel
theorem dX9_write_93 : decode cX9_write 93 = .ok (.iconst 3, 1) := by decide +kernel
theorem dX9_write_94 : decode cX9_write 94 = .ok (.invokevirtual 213, 3) := by decide +kernel
theorem dX9_write_97 : decode cX9_write 97 = .ok (.aload_n 0, 1) := by decide +kernel
theorem dX9_write_98 : decode cX9_write 98 = .ok (.iload 4, 2) := by decide +kernel
theorem dX9_write_100 : decode cX9_write 100 = .ok (.ifCond .eq 7, 3) := by decide +kernel
theorem dX9_write_103 : decode cX9_write 103 = .ok (.iconst 2, 1) := by decide +kernel
theorem dX9_write_104 : decode cX9_write 104 = .ok (.goto 4, 3) := by decide +kernel
theorem dX9_write_107 : decode cX9_write 107 = .ok (.iconst 0, 1) := by decide +kernel
theorem dX9_write_108 : decode cX9_write 108 = .ok (.invokevirtual 403, 3) := by decide +kernel
theorem dX9_write_111 : decode cX9_write 111 = .ok (.iload 4, 2) := by decide +kernel
theorem dX9_write_113 : decode cX9_write 113 = .ok (.ifCond .eq 7, 3) := by decide +kernel
theorem dX9_write_116 : decode cX9_write 116 = .ok (.aload_n 0, 1) := by decide +kernel
theorem dX9_write_117 : decode cX9_write 117 = .ok (.invokevirtual 418, 3) := by decide +kernel
theorem dX9_write_120 : decode cX9_write 120 = .ok (.iconst 0, 1) := by decide +kernel
theorem dX9_write_121 : decode cX9_write 121 = .ok (.istore 5, 2) := by decide +kernel
theorem dX9_write_123 : decode cX9_write 123 = .ok (.iconst 0, 1) := by decide +kernel
theorem dX9_write_124 : decode cX9_write 124 = .ok (.istore 6, 2) := by decide +kernel
theorem dX9_write_126 : decode cX9_write 126 = .ok (.iload 6, 2) := by decide +kernel
theorem dX9_write_128 : decode cX9_write 128 = .ok (.aload_n 0, 1) := by decide +kernel
theorem dX9_write_129 : decode cX9_write 129 = .ok (.getfield 13, 3) := by decide +kernel
theorem dX9_write_132 : decode cX9_write 132 = .ok (.iconst 1, 1) := by decide +kernel
theorem dX9_write_133 : decode cX9_write 133 = .ok (.iaload, 1) := by decide +kernel
theorem dX9_write_134 : decode cX9_write 134 = .ok (.if_icmp .ge 204, 3) := by decide +kernel
theorem dX9_write_137 : decode cX9_write 137 = .ok (.aload_n 0, 1) := by decide +kernel
theorem dX9_write_138 : decode cX9_write 138 = .ok (.getfield 13, 3) := by decide +kernel
theorem dX9_write_141 : decode cX9_write 141 = .ok (.iconst 1, 1) := by decide +kernel
theorem dX9_write_142 : decode cX9_write 142 = .ok (.iaload, 1) := by decide +kernel
theorem dX9_write_143 : decode cX9_write 143 = .ok (.iload 6, 2) := by decide +kernel
theorem dX9_write_145 : decode cX9_write 145 = .ok (.isub, 1) := by decide +kernel
theorem dX9_write_146 : decode cX9_write 146 = .ok (.iload_n 3, 1) := by decide +kernel
theorem dX9_write_147 : decode cX9_write 147 = .ok (.if_icmp .ge 15, 3) := by decide +kernel
theorem dX9_write_150 : decode cX9_write 150 = .ok (.aload_n 0, 1) := by decide +kernel
theorem dX9_write_151 : decode cX9_write 151 = .ok (.getfield 13, 3) := by decide +kernel
theorem dX9_write_154 : decode cX9_write 154 = .ok (.iconst 1, 1) := by decide +kernel
theorem dX9_write_155 : decode cX9_write 155 = .ok (.iaload, 1) := by decide +kernel
theorem dX9_write_156 : decode cX9_write 156 = .ok (.iload 6, 2) := by decide +kernel
theorem dX9_write_158 : decode cX9_write 158 = .ok (.isub, 1) := by decide +kernel
theorem dX9_write_159 : decode cX9_write 159 = .ok (.goto 4, 3) := by decide +kernel
theorem dX9_write_162 : decode cX9_write 162 = .ok (.iload_n 3, 1) := by decide +kernel
theorem dX9_write_163 : decode cX9_write 163 = .ok (.istore 7, 2) := by decide +kernel
theorem dX9_write_165 : decode cX9_write 165 = .ok (.aload_n 0, 1) := by decide +kernel
theorem dX9_write_166 : decode cX9_write 166 = .ok (.iload_n 2, 1) := by decide +kernel
theorem dX9_write_167 : decode cX9_write 167 = .ok (.iconst 1, 1) := by decide +kernel
theorem dX9_write_168 : decode cX9_write 168 = .ok (.if_icmp .ne 12, 3) := by decide +kernel
theorem dX9_write_171 : decode cX9_write 171 = .ok (.aload_n 0, 1) := by decide +kernel
theorem dX9_write_172 : decode cX9_write 172 = .ok (.getfield 13, 3) := by decide +kernel
theorem dX9_write_175 : decode cX9_write 175 = .ok (.iconst 0, 1) := by decide +kernel
theorem dX9_write_176 : decode cX9_write 176 = .ok (.iaload, 1) := by decide +kernel
theorem dX9_write_177 : decode cX9_write 177 = .ok (.goto 14, 3) := by decide +kernel
theorem dX9_write_180 : decode cX9_write 180 = .ok (.iload_n 2, 1) := by decide +kernel
theorem dX9_write_181 : decode cX9_write 181 = .ok (.iconst 2, 1) := by decide +kernel
theorem dX9_write_182 : decode cX9_write 182 = .ok (.if_icmp .ne 8, 3) := by decide +kernel
theorem dX9_write_185 : decode cX9_write 185 = .ok (.iload 6, 2) := by decide +kernel
theorem dX9_write_187 : decode cX9_write 187 = .ok (.goto 4, 3) := by decide +kernel
theorem dX9_write_190 : decode cX9_write 190 = .ok (.iconst 0, 1) := by decide +kernel
theorem dX9_write_191 : decode cX9_write 191 = .ok (.putfield 365, 3) := by decide +kernel
theorem dX9_write_194 : decode cX9_write 194 = .ok (.iconst 0, 1) := by decide +kernel
theorem dX9_write_195 : decode cX9_write 195 = .ok (.istore 8, 2) := by decide +kernel
theorem dX9_write_197 : decode cX9_write 197 = .ok (.iload 8, 2) := by decide +kernel
theorem dX9_write_199 : decode cX9_write 199 = .ok (.aload_n 0, 1) := by decide +kernel
theorem dX9_write_200 : decode cX9_write 200 = .ok (.getfield 365, 3) := by decide +kernel
theorem dX9_write_203 : decode cX9_write 203 = .ok (.if_icmp .ge 37, 3) := by decide +kernel
theorem dX9_write_206 : decode cX9_write 206 = .ok (.aload_n 0, 1) := by decide +kernel
theorem dX9_write_207 : decode cX9_write 207 = .ok (.getfield 100, 3) := by decide +kernel
theorem dX9_write_210 : decode cX9_write 210 = .ok (.iload 8, 2) := by decide +kernel
theorem dX9_write_212 : decode cX9_write 212 = .ok (.aload_n 0, 1) := by decide +kernel
theorem dX9_write_213 : decode cX9_write 213 = .ok (.getfield 7, 3) := by decide +kernel
theorem dX9_write_216 : decode cX9_write 216 = .ok (.iload_n 2, 1) := by decide +kernel
theorem dX9_write_217 : decode cX9_write 217 = .ok (.iconst 1, 1) := by decide +kernel
theorem dX9_write_218 : decode cX9_write 218 = .ok (.if_icmp .ne 8, 3) := by decide +kernel
theorem dX9_write_221 : decode cX9_write 221 = .ok (.iload 8, 2) := by decide +kernel
theorem dX9_write_223 : decode cX9_write 223 = .ok (.goto 9, 3) := by decide +kernel
theorem dX9_write_226 : decode cX9_write 226 = .ok (.sipush 8000, 3) := by decide +kernel
theorem dX9_write_229 : decode cX9_write 229 = .ok (.iload 8, 2) := by decide +kernel
theorem dX9_write_231 : decode cX9_write 231 = .ok (.iadd, 1) := by decide +kernel
theorem dX9_write_232 : decode cX9_write 232 = .ok (.baload, 1) := by decide +kernel
theorem dX9_write_233 : decode cX9_write 233 = .ok (.bastore, 1) := by decide +kernel
theorem dX9_write_234 : decode cX9_write 234 = .ok (.iinc 8 1, 3) := by decide +kernel
theorem dX9_write_237 : decode cX9_write 237 = .ok (.goto (-40), 3) := by decide +kernel
theorem dX9_write_240 : decode cX9_write 240 = .ok (.iconst 0, 1) := by decide +kernel
theorem dX9_write_241 : decode cX9_write 241 = .ok (.istore 8, 2) := by decide +kernel
theorem dX9_write_243 : decode cX9_write 243 = .ok (.iload 8, 2) := by decide +kernel
theorem dX9_write_245 : decode cX9_write 245 = .ok (.iload 7, 2) := by decide +kernel
theorem dX9_write_247 : decode cX9_write 247 = .ok (.if_icmp .ge 35, 3) := by decide +kernel
theorem dX9_write_250 : decode cX9_write 250 = .ok (.aload_n 0, 1) := by decide +kernel
theorem dX9_write_251 : decode cX9_write 251 = .ok (.getfield 100, 3) := by decide +kernel
theorem dX9_write_254 : decode cX9_write 254 = .ok (.aload_n 0, 1) := by decide +kernel
theorem dX9_write_255 : decode cX9_write 255 = .ok (.getfield 365, 3) := by decide +kernel
theorem dX9_write_258 : decode cX9_write 258 = .ok (.iload 8, 2) := by decide +kernel
theorem dX9_write_260 : decode cX9_write 260 = .ok (.iadd, 1) := by decide +kernel
theorem dX9_write_261 : decode cX9_write 261 = .ok (.aload_n 0, 1) := by decide +kernel
theorem dX9_write_262 : decode cX9_write 262 = .ok (.getfield 7, 3) := by decide +kernel
theorem dX9_write_265 : decode cX9_write 265 = .ok (.sipush 8000, 3) := by decide +kernel
theorem dX9_write_268 : decode cX9_write 268 = .ok (.iload 6, 2) := by decide +kernel
theorem dX9_write_270 : decode cX9_write 270 = .ok (.iadd, 1) := by decide +kernel
theorem dX9_write_271 : decode cX9_write 271 = .ok (.iload 8, 2) := by decide +kernel
theorem dX9_write_273 : decode cX9_write 273 = .ok (.iadd, 1) := by decide +kernel
theorem dX9_write_274 : decode cX9_write 274 = .ok (.baload, 1) := by decide +kernel
theorem dX9_write_275 : decode cX9_write 275 = .ok (.bastore, 1) := by decide +kernel
theorem dX9_write_276 : decode cX9_write 276 = .ok (.iinc 8 1, 3) := by decide +kernel
theorem dX9_write_279 : decode cX9_write 279 = .ok (.goto (-36), 3) := by decide +kernel
theorem dX9_write_282 : decode cX9_write 282 = .ok (.aload_n 0, 1) := by decide +kernel
theorem dX9_write_283 : decode cX9_write 283 = .ok (.aload_n 0, 1) := by decide +kernel
theorem dX9_write_284 : decode cX9_write 284 = .ok (.getfield 365, 3) := by decide +kernel
theorem dX9_write_287 : decode cX9_write 287 = .ok (.iload 7, 2) := by decide +kernel
theorem dX9_write_289 : decode cX9_write 289 = .ok (.iadd, 1) := by decide +kernel
theorem dX9_write_290 : decode cX9_write 290 = .ok (.putfield 362, 3) := by decide +kernel
theorem dX9_write_293 : decode cX9_write 293 = .ok (.aload_n 0, 1) := by decide +kernel
theorem dX9_write_294 : decode cX9_write 294 = .ok (.iload_n 1, 1) := by decide +kernel
theorem dX9_write_295 : decode cX9_write 295 = .ok (.invokevirtual 406, 3) := by decide +kernel
theorem dX9_write_298 : decode cX9_write 298 = .ok (.aload_n 0, 1) := by decide +kernel
theorem dX9_write_299 : decode cX9_write 299 = .ok (.iload 5, 2) := by decide +kernel
theorem dX9_write_301 : decode cX9_write 301 = .ok (.invokevirtual 409, 3) := by decide +kernel
theorem dX9_write_304 : decode cX9_write 304 = .ok (.ifCond .ne 6, 3) := by decide +kernel
theorem dX9_write_307 : decode cX9_write 307 = .ok (.bipush (-5), 2) := by decide +kernel
theorem dX9_write_309 : decode cX9_write 309 = .ok (.ireturn, 1) := by decide +kernel
theorem dX9_write_310 : decode cX9_write 310 = .ok (.aload_n 0, 1) := by decide +kernel
theorem dX9_write_311 : decode cX9_write 311 = .ok (.aload_n 0, 1) := by decide +kernel
theorem dX9_write_312 : decode cX9_write 312 = .ok (.getfield 365, 3) := by decide +kernel
theorem dX9_write_315 : decode cX9_write 315 = .ok (.ifCond .le 7, 3) := by decide +kernel
theorem dX9_write_318 : decode cX9_write 318 = .ok (.iload_n 2, 1) := by decide +kernel
theorem dX9_write_319 : decode cX9_write 319 = .ok (.goto 4, 3) := by decide +kernel
theorem dX9_write_322 : decode cX9_write 322 = .ok (.iconst 0, 1) := by decide +kernel
theorem dX9_write_323 : decode cX9_write 323 = .ok (.invokevirtual 413, 3) := by decide +kernel
theorem dX9_write_326 : decode cX9_write 326 = .ok (.iinc 5 1, 3) := by decide +kernel
theorem dX9_write_329 : decode cX9_write 329 = .ok (.iload 6, 2) := by decide +kernel
theorem dX9_write_331 : decode cX9_write 331 = .ok (.iload_n 3, 1) := by decide +kernel
theorem dX9_write_332 : decode cX9_write 332 = .ok (.iadd, 1) := by decide +kernel
theorem dX9_write_333 : decode cX9_write 333 = .ok (.istore 6, 2) := by decide +kernel
theorem dX9_write_335 : decode cX9_write 335 = .ok (.goto (-209), 3) := by decide +kernel
theorem dX9_write_338 : decode cX9_write 338 = .ok (.aload_n 0, 1) := by decide +kernel
theorem dX9_write_339 : decode cX9_write 339 = .ok (.invokevirtual 421, 3) := by decide +kernel
theorem dX9_write_342 : decode cX9_write 342 = .ok (.ireturn, 1) := by decide +kernel
theorem dX9_written_0 : decode cX9_written 0 = .ok (.aload_n 0, 1) := by decide +kernel
theorem dX9_written_1 : decode cX9_written 1 = .ok (.getfield 346, 3) := by decide +kernel
theorem dX9_written_4 : decode cX9_written 4 = .ok (.sipush 8000, 3) := by decide +kernel
theorem dX9_written_7 : decode cX9_written 7 = .ok (.if_icmp .le 6, 3) := by decide +kernel
theorem dX9_written_10 : decode cX9_written 10 = .ok (.bipush (-4), 2) := by decide +kernel
theorem dX9_written_12 : decode cX9_written 12 = .ok (.ireturn, 1) := by decide +kernel
theorem dX9_written_13 : decode cX9_written 13 = .ok (.iconst 0, 1) := by decide +kernel
theorem dX9_written_14 : decode cX9_written 14 = .ok (.istore_n 1, 1) := by decide +kernel
theorem dX9_written_15 : decode cX9_written 15 = .ok (.iload_n 1, 1) := by decide +kernel
theorem dX9_written_16 : decode cX9_written 16 = .ok (.aload_n 0, 1) := by decide +kernel
theorem dX9_written_17 : decode cX9_written 17 = .ok (.getfield 346, 3) := by decide +kernel
theorem dX9_written_20 : decode cX9_written 20 = .ok (.if_icmp .ge 25, 3) := by decide +kernel
theorem dX9_written_23 : decode cX9_written 23 = .ok (.aload_n 0, 1) := by decide +kernel
theorem dX9_written_24 : decode cX9_written 24 = .ok (.getfield 7, 3) := by decide +kernel
theorem dX9_written_27 : decode cX9_written 27 = .ok (.sipush 16000, 3) := by decide +kernel
theorem dX9_written_30 : decode cX9_written 30 = .ok (.iload_n 1, 1) := by decide +kernel
theorem dX9_written_31 : decode cX9_written 31 = .ok (.iadd, 1) := by decide +kernel
theorem dX9_written_32 : decode cX9_written 32 = .ok (.aload_n 0, 1) := by decide +kernel
theorem dX9_written_33 : decode cX9_written 33 = .ok (.getfield 88, 3) := by decide +kernel
theorem dX9_written_36 : decode cX9_written 36 = .ok (.iload_n 1, 1) := by decide +kernel
theorem dX9_written_37 : decode cX9_written 37 = .ok (.baload, 1) := by decide +kernel
theorem dX9_written_38 : decode cX9_written 38 = .ok (.bastore, 1) := by decide +kernel
theorem dX9_written_39 : decode cX9_written 39 = .ok (.iinc 1 1, 3) := by decide +kernel
theorem dX9_written_42 : decode cX9_written 42 = .ok (.goto (-27), 3) := by decide +kernel
theorem dX9_written_45 : decode cX9_written 45 = .ok (.aload_n 0, 1) := by decide +kernel
theorem dX9_written_46 : decode cX9_written 46 = .ok (.getfield 13, 3) := by decide +kernel
theorem dX9_written_49 : decode cX9_written 49 = .ok (.iconst 2, 1) := by decide +kernel
theorem dX9_written_50 : decode cX9_written 50 = .ok (.aload_n 0, 1) := by decide +kernel
theorem dX9_written_51 : decode cX9_written 51 = .ok (.getfield 346, 3) := by decide +kernel
theorem dX9_written_54 : decode cX9_written 54 = .ok (.iastore, 1) := by decide +kernel
theorem dX9_written_55 : decode cX9_written 55 = .ok (.aload_n 0, 1) := by decide +kernel
theorem dX9_written_56 : decode cX9_written 56 = .ok (.invokevirtual 343, 3) := by decide +kernel
theorem dX9_written_59 : decode cX9_written 59 = .ok (.aload_n 0, 1) := by decide +kernel
theorem dX9_written_60 : decode cX9_written 60 = .ok (.getfield 346, 3) := by decide +kernel
theorem dX9_written_63 : decode cX9_written 63 = .ok (.ireturn, 1) := by decide +kernel
theorem dX9_join_0 : decode cX9_join 0 = .ok (.aload_n 0, 1) := by decide +kernel
theorem dX9_join_1 : decode cX9_join 1 = .ok (.iconst 0, 1) := by decide +kernel
theorem dX9_join_2 : decode cX9_join 2 = .ok (.putfield 131, 3) := by decide +kernel
theorem dX9_join_5 : decode cX9_join 5 = .ok (.aload_n 0, 1) := by decide +kernel
theorem dX9_join_6 : decode cX9_join 6 = .ok (.iconst 2, 1) := by decide +kernel
theorem dX9_join_7 : decode cX9_join 7 = .ok (.iconst 1, 1) := by decide +kernel
theorem dX9_join_8 : decode cX9_join 8 = .ok (.invokevirtual 336, 3) := by decide +kernel
theorem dX9_join_11 : decode cX9_join 11 = .ok (.aload_n 0, 1) := by decide +kernel
theorem dX9_join_12 : decode cX9_join 12 = .ok (.getfield 179, 3) := by decide +kernel
theorem dX9_join_15 : decode cX9_join 15 = .ok (.ifCond .le 14, 3) := by decide +kernel
theorem dX9_join_18 : decode cX9_join 18 = .ok (.aload_n 0, 1) := by decide +kernel
theorem dX9_join_19 : decode cX9_join 19 = .ok (.invokevirtual 340, 3) := by decide +kernel
theorem dX9_join_22 : decode cX9_join 22 = .ok (.istore_n 1, 1) := by decide +kernel
theorem dX9_join_23 : decode cX9_join 23 = .ok (.aload_n 0, 1) := by decide +kernel
theorem dX9_join_24 : decode cX9_join 24 = .ok (.invokevirtual 343, 3) := by decide +kernel
theorem dX9_join_27 : decode cX9_join 27 = .ok (.iload_n 1, 1) := by decide +kernel
theorem dX9_join_28 : decode cX9_join 28 = .ok (.ireturn, 1) := by decide +kernel
theorem dX9_join_29 : decode cX9_join 29 = .ok (.aload_n 0, 1) := by decide +kernel
theorem dX9_join_30 : decode cX9_join 30 = .ok (.aload_n 0, 1) := by decide +kernel
theorem dX9_join_31 : decode cX9_join 31 = .ok (.getfield 221, 3) := by decide +kernel
theorem dX9_join_34 : decode cX9_join 34 = .ok (.putfield 240, 3) := by decide +kernel
theorem dX9_join_37 : decode cX9_join 37 = .ok (.iconst 0, 1) := by decide +kernel
theorem dX9_join_38 : decode cX9_join 38 = .ok (.istore_n 1, 1) := by decide +kernel
theorem dX9_join_39 : decode cX9_join 39 = .ok (.iload_n 1, 1) := by decide +kernel
theorem dX9_join_40 : decode cX9_join 40 = .ok (.aload_n 0, 1) := by decide +kernel
theorem dX9_join_41 : decode cX9_join 41 = .ok (.getfield 221, 3) := by decide +kernel
theorem dX9_join_44 : decode cX9_join 44 = .ok (.if_icmp .ge 33, 3) := by decide +kernel
theorem dX9_join_47 : decode cX9_join 47 = .ok (.aload_n 0, 1) := by decide +kernel
theorem dX9_join_48 : decode cX9_join 48 = .ok (.getfield 121, 3) := by decide +kernel
theorem dX9_join_51 : decode cX9_join 51 = .ok (.iload_n 1, 1) := by decide +kernel
theorem dX9_join_52 : decode cX9_join 52 = .ok (.aload_n 0, 1) := by decide +kernel
theorem dX9_join_53 : decode cX9_join 53 = .ok (.getfield 82, 3) := by decide +kernel
theorem dX9_join_56 : decode cX9_join 56 = .ok (.iload_n 1, 1) := by decide +kernel
theorem dX9_join_57 : decode cX9_join 57 = .ok (.baload, 1) := by decide +kernel
theorem dX9_join_58 : decode cX9_join 58 = .ok (.bastore, 1) := by decide +kernel
theorem dX9_join_59 : decode cX9_join 59 = .ok (.aload_n 0, 1) := by decide +kernel
theorem dX9_join_60 : decode cX9_join 60 = .ok (.getfield 124, 3) := by decide +kernel
theorem dX9_join_63 : decode cX9_join 63 = .ok (.iload_n 1, 1) := by decide +kernel
theorem dX9_join_64 : decode cX9_join 64 = .ok (.aload_n 0, 1) := by decide +kernel
theorem dX9_join_65 : decode cX9_join 65 = .ok (.getfield 85, 3) := by decide +kernel
theorem dX9_join_68 : decode cX9_join 68 = .ok (.iload_n 1, 1) := by decide +kernel
theorem dX9_join_69 : decode cX9_join 69 = .ok (.iaload, 1) := by decide +kernel
theorem dX9_join_70 : decode cX9_join 70 = .ok (.iastore, 1) := by decide +kernel
theorem dX9_join_71 : decode cX9_join 71 = .ok (.iinc 1 1, 3) := by decide +kernel
theorem dX9_join_74 : decode cX9_join 74 = .ok (.goto (-35), 3) := by decide +kernel
theorem dX9_join_77 : decode cX9_join 77 = .ok (.aload_n 0, 1) := by decide +kernel
theorem dX9_join_78 : decode cX9_join 78 = .ok (.iconst 3, 1) := by decide +kernel
theorem dX9_join_79 : decode cX9_join 79 = .ok (.iconst 0, 1) := by decide +kernel
theorem dX9_join_80 : decode cX9_join 80 = .ok (.invokevirtual 336, 3) := by decide +kernel
theorem dX9_join_83 : decode cX9_join 83 = .ok (.aload_n 0, 1) := by decide +kernel
theorem dX9_join_84 : decode cX9_join 84 = .ok (.getfield 179, 3) := by decide +kernel
theorem dX9_join_87 : decode cX9_join 87 = .ok (.ifCond .le 14, 3) := by decide +kernel
theorem dX9_join_90 : decode cX9_join 90 = .ok (.aload_n 0, 1) := by decide +kernel
theorem dX9_join_91 : decode cX9_join 91 = .ok (.invokevirtual 340, 3) := by decide +kernel
theorem dX9_join_94 : decode cX9_join 94 = .ok (.istore_n 1, 1) := by decide +kernel
theorem dX9_join_95 : decode cX9_join 95 = .ok (.aload_n 0, 1) := by decide +kernel
theorem dX9_join_96 : decode cX9_join 96 = .ok (.invokevirtual 343, 3) := by decide +kernel
theorem dX9_join_99 : decode cX9_join 99 = .ok (.iload_n 1, 1) := by decide +kernel
theorem dX9_join_100 : decode cX9_join 100 = .ok (.ireturn, 1) := by decide +kernel
theorem dX9_join_101 : decode cX9_join 101 = .ok (.aload_n 0, 1) := by decide +kernel
theorem dX9_join_102 : decode cX9_join 102 = .ok (.getfield 173, 3) := by decide +kernel
theorem dX9_join_105 : decode cX9_join 105 = .ok (.istore_n 1, 1) := by decide +kernel
theorem dX9_join_106 : decode cX9_join 106 = .ok (.aload_n 0, 1) := by decide +kernel
theorem dX9_join_107 : decode cX9_join 107 = .ok (.iconst 0, 1) := by decide +kernel
theorem dX9_join_108 : decode cX9_join 108 = .ok (.putfield 173, 3) := by decide +kernel
theorem dX9_join_111 : decode cX9_join 111 = .ok (.aload_n 0, 1) := by decide +kernel
theorem dX9_join_112 : decode cX9_join 112 = .ok (.iconst 0, 1) := by decide +kernel
theorem dX9_join_113 : decode cX9_join 113 = .ok (.putfield 346, 3) := by decide +kernel
theorem dX9_join_116 : decode cX9_join 116 = .ok (.aload_n 0, 1) := by decide +kernel
theorem dX9_join_117 : decode cX9_join 117 = .ok (.aload_n 0, 1) := by decide +kernel
theorem dX9_join_118 : decode cX9_join 118 = .ok (.getfield 17, 3) := by decide +kernel
theorem dX9_join_121 : decode cX9_join 121 = .ok (.iconst 4, 1) := by decide +kernel
theorem dX9_join_122 : decode cX9_join 122 = .ok (.iconst 3, 1) := by decide +kernel
theorem dX9_join_123 : decode cX9_join 123 = .ok (.invokevirtual 213, 3) := by decide +kernel
theorem dX9_join_126 : decode cX9_join 126 = .ok (.aload_n 0, 1) := by decide +kernel
theorem dX9_join_127 : decode cX9_join 127 = .ok (.iconst 0, 1) := by decide +kernel
theorem dX9_join_128 : decode cX9_join 128 = .ok (.invokevirtual 403, 3) := by decide +kernel
theorem dX9_join_131 : decode cX9_join 131 = .ok (.aload_n 0, 1) := by decide +kernel
theorem dX9_join_132 : decode cX9_join 132 = .ok (.aload_n 0, 1) := by decide +kernel
theorem dX9_join_133 : decode cX9_join 133 = .ok (.getfield 13, 3) := by decide +kernel
theorem dX9_join_136 : decode cX9_join 136 = .ok (.iconst 0, 1) := by decide +kernel
theorem dX9_join_137 : decode cX9_join 137 = .ok (.iaload, 1) := by decide +kernel
theorem dX9_join_138 : decode cX9_join 138 = .ok (.putfield 365, 3) := by decide +kernel
theorem dX9_join_141 : decode cX9_join 141 = .ok (.iconst 0, 1) := by decide +kernel
theorem dX9_join_142 : decode cX9_join 142 = .ok (.istore_n 2, 1) := by decide +kernel
theorem dX9_join_143 : decode cX9_join 143 = .ok (.iload_n 2, 1) := by decide +kernel
theorem dX9_join_144 : decode cX9_join 144 = .ok (.aload_n 0, 1) := by decide +kernel
theorem dX9_join_145 : decode cX9_join 145 = .ok (.getfield 365, 3) := by decide +kernel
theorem dX9_join_148 : decode cX9_join 148 = .ok (.if_icmp .ge 21, 3) := by decide +kernel
theorem dX9_join_151 : decode cX9_join 151 = .ok (.aload_n 0, 1) := by decide +kernel
theorem dX9_join_152 : decode cX9_join 152 = .ok (.getfield 100, 3) := by decide +kernel
theorem dX9_join_155 : decode cX9_join 155 = .ok (.iload_n 2, 1) := by decide +kernel
theorem dX9_join_156 : decode cX9_join 156 = .ok (.aload_n 0, 1) := by decide +kernel
theorem dX9_join_157 : decode cX9_join 157 = .ok (.getfield 7, 3) := by decide +kernel
theorem dX9_join_160 : decode cX9_join 160 = .ok (.iload_n 2, 1) := by decide +kernel
theorem dX9_join_161 : decode cX9_join 161 = .ok (.baload, 1) := by decide +kernel
theorem dX9_join_162 : decode cX9_join 162 = .ok (.bastore, 1) := by decide +kernel
theorem dX9_join_163 : decode cX9_join 163 = .ok (.iinc 2 1, 3) := by decide +kernel
theorem dX9_join_166 : decode cX9_join 166 = .ok (.goto (-23), 3) := by decide +kernel
theorem dX9_join_169 : decode cX9_join 169 = .ok (.iconst 0, 1) := by decide +kernel
theorem dX9_join_170 : decode cX9_join 170 = .ok (.istore_n 2, 1) := by decide +kernel
theorem dX9_join_171 : decode cX9_join 171 = .ok (.iload_n 2, 1) := by decide +kernel
theorem dX9_join_172 : decode cX9_join 172 = .ok (.aload_n 0, 1) := by decide +kernel
theorem dX9_join_173 : decode cX9_join 173 = .ok (.getfield 221, 3) := by decide +kernel
theorem dX9_join_176 : decode cX9_join 176 = .ok (.if_icmp .ge 26, 3) := by decide +kernel
theorem dX9_join_179 : decode cX9_join 179 = .ok (.aload_n 0, 1) := by decide +kernel
theorem dX9_join_180 : decode cX9_join 180 = .ok (.getfield 100, 3) := by decide +kernel
theorem dX9_join_183 : decode cX9_join 183 = .ok (.aload_n 0, 1) := by decide +kernel
theorem dX9_join_184 : decode cX9_join 184 = .ok (.getfield 365, 3) := by decide +kernel
theorem dX9_join_187 : decode cX9_join 187 = .ok (.iload_n 2, 1) := by decide +kernel
theorem dX9_join_188 : decode cX9_join 188 = .ok (.iadd, 1) := by decide +kernel
theorem dX9_join_189 : decode cX9_join 189 = .ok (.aload_n 0, 1) := by decide +kernel
theorem dX9_join_190 : decode cX9_join 190 = .ok (.getfield 82, 3) := by decide +kernel
theorem dX9_join_193 : decode cX9_join 193 = .ok (.iload_n 2, 1) := by decide +kernel
theorem dX9_join_194 : decode cX9_join 194 = .ok (.baload, 1) := by decide +kernel
theorem dX9_join_195 : decode cX9_join 195 = .ok (.bastore, 1) := by decide +kernel
theorem dX9_join_196 : decode cX9_join 196 = .ok (.iinc 2 1, 3) := by decide +kernel
theorem dX9_join_199 : decode cX9_join 199 = .ok (.goto (-28), 3) := by decide +kernel
theorem dX9_join_202 : decode cX9_join 202 = .ok (.aload_n 0, 1) := by decide +kernel
theorem dX9_join_203 : decode cX9_join 203 = .ok (.aload_n 0, 1) := by decide +kernel
theorem dX9_join_204 : decode cX9_join 204 = .ok (.getfield 365, 3) := by decide +kernel
theorem dX9_join_207 : decode cX9_join 207 = .ok (.aload_n 0, 1) := by decide +kernel
theorem dX9_join_208 : decode cX9_join 208 = .ok (.getfield 221, 3) := by decide +kernel
theorem dX9_join_211 : decode cX9_join 211 = .ok (.iadd, 1) := by decide +kernel
theorem dX9_join_212 : decode cX9_join 212 = .ok (.putfield 362, 3) := by decide +kernel
theorem dX9_join_215 : decode cX9_join 215 = .ok (.aload_n 0, 1) := by decide +kernel
theorem dX9_join_216 : decode cX9_join 216 = .ok (.iconst 0, 1) := by decide +kernel
theorem dX9_join_217 : decode cX9_join 217 = .ok (.putfield 356, 3) := by decide +kernel
theorem dX9_join_220 : decode cX9_join 220 = .ok (.iconst 0, 1) := by decide +kernel
theorem dX9_join_221 : decode cX9_join 221 = .ok (.istore_n 2, 1) := by decide +kernel
theorem dX9_join_222 : decode cX9_join 222 = .ok (.iload_n 2, 1) := by decide +kernel
theorem dX9_join_223 : decode cX9_join 223 = .ok (.aload_n 0, 1) := by decide +kernel
theorem dX9_join_224 : decode cX9_join 224 = .ok (.getfield 221, 3) := by decide +kernel
theorem dX9_join_227 : decode cX9_join 227 = .ok (.if_icmp .ge 104, 3) := by decide +kernel
theorem dX9_join_230 : decode cX9_join 230 = .ok (.iconst 1, 1) := by decide +kernel
theorem dX9_join_231 : decode cX9_join 231 = .ok (.istore_n 3, 1) := by decide +kernel
theorem dX9_join_232 : decode cX9_join 232 = .ok (.aload_n 0, 1) := by decide +kernel
theorem dX9_join_233 : decode cX9_join 233 = .ok (.getfield 85, 3) := by decide +kernel
theorem dX9_join_236 : decode cX9_join 236 = .ok (.iload_n 2, 1) := by decide +kernel
theorem dX9_join_237 : decode cX9_join 237 = .ok (.iaload, 1) := by decide +kernel
theorem dX9_join_238 : decode cX9_join 238 = .ok (.ifCond .lt 38, 3) := by decide +kernel
theorem dX9_join_241 : decode cX9_join 241 = .ok (.iload_n 2, 1) := by decide +kernel
theorem dX9_join_242 : decode cX9_join 242 = .ok (.iload_n 3, 1) := by decide +kernel
theorem dX9_join_243 : decode cX9_join 243 = .ok (.iadd, 1) := by decide +kernel
theorem dX9_join_244 : decode cX9_join 244 = .ok (.aload_n 0, 1) := by decide +kernel
theorem dX9_join_245 : decode cX9_join 245 = .ok (.getfield 221, 3) := by decide +kernel
theorem dX9_join_248 : decode cX9_join 248 = .ok (.if_icmp .ge 28, 3) := by decide +kernel
theorem dX9_join_251 : decode cX9_join 251 = .ok (.aload_n 0, 1) := by decide +kernel
theorem dX9_join_252 : decode cX9_join 252 = .ok (.getfield 85, 3) := by decide +kernel
theorem dX9_join_255 : decode cX9_join 255 = .ok (.iload_n 2, 1) := by decide +kernel
theorem dX9_join_256 : decode cX9_join 256 = .ok (.iload_n 3, 1) := by decide +kernel
theorem dX9_join_257 : decode cX9_join 257 = .ok (.iadd, 1) := by decide +kernel
theorem dX9_join_258 : decode cX9_join 258 = .ok (.iaload, 1) := by decide +kernel
theorem dX9_join_259 : decode cX9_join 259 = .ok (.aload_n 0, 1) := by decide +kernel
theorem dX9_join_260 : decode cX9_join 260 = .ok (.getfield 85, 3) := by decide +kernel
theorem dX9_join_263 : decode cX9_join 263 = .ok (.iload_n 2, 1) := by decide +kernel
theorem dX9_join_264 : decode cX9_join 264 = .ok (.iaload, 1) := by decide +kernel
theorem dX9_join_265 : decode cX9_join 265 = .ok (.iload_n 3, 1) := by decide +kernel
theorem dX9_join_266 : decode cX9_join 266 = .ok (.iadd, 1) := by decide +kernel
theorem dX9_join_267 : decode cX9_join 267 = .ok (.if_icmp .ne 9, 3) := by decide +kernel
theorem dX9_join_270 : decode cX9_join 270 = .ok (.iinc 3 1, 3) := by decide +kernel
theorem dX9_join_273 : decode cX9_join 273 = .ok (.goto (-41), 3) := by decide +kernel
theorem dX9_join_276 : decode cX9_join 276 = .ok (.aload_n 0, 1) := by decide +kernel
theorem dX9_join_277 : decode cX9_join 277 = .ok (.getfield 85, 3) := by decide +kernel
theorem dX9_join_280 : decode cX9_join 280 = .ok (.iload_n 2, 1) := by decide +kernel
theorem dX9_join_281 : decode cX9_join 281 = .ok (.iaload, 1) := by decide +kernel
theorem dX9_join_282 : decode cX9_join 282 = .ok (.ifCond .lt 29, 3) := by decide +kernel
theorem dX9_join_285 : decode cX9_join 285 = .ok (.iload_n 3, 1) := by decide +kernel
theorem dX9_join_286 : decode cX9_join 286 = .ok (.iconst 4, 1) := by decide +kernel
theorem dX9_join_287 : decode cX9_join 287 = .ok (.if_icmp .lt 24, 3) := by decide +kernel
theorem dX9_join_290 : decode cX9_join 290 = .ok (.aload_n 0, 1) := by decide +kernel
theorem dX9_join_291 : decode cX9_join 291 = .ok (.iconst 3, 1) := by decide +kernel
theorem dX9_join_292 : decode cX9_join 292 = .ok (.iload_n 3, 1) := by decide +kernel
theorem dX9_join_293 : decode cX9_join 293 = .ok (.aload_n 0, 1) := by decide +kernel
theorem dX9_join_294 : decode cX9_join 294 = .ok (.getfield 365, 3) := by decide +kernel
theorem dX9_join_297 : decode cX9_join 297 = .ok (.iload_n 2, 1) := by decide +kernel
theorem dX9_join_298 : decode cX9_join 298 = .ok (.iadd, 1) := by decide +kernel
theorem dX9_join_299 : decode cX9_join 299 = .ok (.aload_n 0, 1) := by decide +kernel
theorem dX9_join_300 : decode cX9_join 300 = .ok (.getfield 85, 3) := by decide +kernel
theorem dX9_join_303 : decode cX9_join 303 = .ok (.iload_n 2, 1) := by decide +kernel
theorem dX9_join_304 : decode cX9_join 304 = .ok (.iaload, 1) := by decide +kernel
theorem dX9_join_305 : decode cX9_join 305 = .ok (.invokevirtual 368, 3) := by decide +kernel
theorem dX9_join_308 : decode cX9_join 308 = .ok (.goto 16, 3) := by decide +kernel
theorem dX9_join_311 : decode cX9_join 311 = .ok (.aload_n 0, 1) := by decide +kernel
theorem dX9_join_312 : decode cX9_join 312 = .ok (.iconst 1, 1) := by decide +kernel
theorem dX9_join_313 : decode cX9_join 313 = .ok (.iload_n 3, 1) := by decide +kernel
theorem dX9_join_314 : decode cX9_join 314 = .ok (.aload_n 0, 1) := by decide +kernel
theorem dX9_join_315 : decode cX9_join 315 = .ok (.getfield 365, 3) := by decide +kernel
theorem dX9_join_318 : decode cX9_join 318 = .ok (.iload_n 2, 1) := by decide +kernel
theorem dX9_join_319 : decode cX9_join 319 = .ok (.iadd, 1) := by decide +kernel
theorem dX9_join_320 : decode cX9_join 320 = .ok (.iconst 0, 1) := by decide +kernel
theorem dX9_join_321 : decode cX9_join 321 = .ok (.invokevirtual 368, 3) := by decide +kernel
theorem dX9_join_324 : decode cX9_join 324 = .ok (.iload_n 2, 1) := by decide +kernel
theorem dX9_join_325 : decode cX9_join 325 = .ok (.iload_n 3, 1) := by decide +kernel
theorem dX9_join_326 : decode cX9_join 326 = .ok (.iadd, 1) := by decide +kernel
theorem dX9_join_327 : decode cX9_join 327 = .ok (.istore_n 2, 1) := by decide +kernel
theorem dX9_join_328 : decode cX9_join 328 = .ok (.goto (-106), 3) := by decide +kernel
theorem dX9_join_331 : decode cX9_join 331 = .ok (.aload_n 0, 1) := by decide +kernel
theorem dX9_join_332 : decode cX9_join 332 = .ok (.getfield 221, 3) := by decide +kernel
theorem dX9_join_335 : decode cX9_join 335 = .ok (.ifCond .le 25, 3) := by decide +kernel
theorem dX9_join_338 : decode cX9_join 338 = .ok (.aload_n 0, 1) := by decide +kernel
theorem dX9_join_339 : decode cX9_join 339 = .ok (.iconst 0, 1) := by decide +kernel
theorem dX9_join_340 : decode cX9_join 340 = .ok (.invokevirtual 409, 3) := by decide +kernel
theorem dX9_join_343 : decode cX9_join 343 = .ok (.istore_n 3, 1) := by decide +kernel
theorem dX9_join_344 : decode cX9_join 344 = .ok (.aload_n 0, 1) := by decide +kernel
theorem dX9_join_345 : decode cX9_join 345 = .ok (.aload_n 0, 1) := by decide +kernel
theorem dX9_join_346 : decode cX9_join 346 = .ok (.getfield 365, 3) := by decide +kernel
theorem dX9_join_349 : decode cX9_join 349 = .ok (.ifCond .le 7, 3) := by decide +kernel
theorem dX9_join_352 : decode cX9_join 352 = .ok (.iconst 1, 1) := by decide +kernel
theorem dX9_join_353 : decode cX9_join 353 = .ok (.goto 4, 3) := by decide +kernel
theorem dX9_join_356 : decode cX9_join 356 = .ok (.iconst 0, 1) := by decide +kernel
theorem dX9_join_357 : decode cX9_join 357 = .ok (.invokevirtual 413, 3) := by decide +kernel
theorem dX9_join_360 : decode cX9_join 360 = .ok (.aload_n 0, 1) := by decide +kernel
theorem dX9_join_361 : decode cX9_join 361 = .ok (.getfield 346, 3) := by decide +kernel
theorem dX9_join_364 : decode cX9_join 364 = .ok (.sipush 8000, 3) := by decide +kernel
theorem dX9_join_367 : decode cX9_join 367 = .ok (.if_icmp .le 6, 3) := by decide +kernel
theorem dX9_join_370 : decode cX9_join 370 = .ok (.bipush (-4), 2) := by decide +kernel
theorem dX9_join_372 : decode cX9_join 372 = .ok (.ireturn, 1) := by decide +kernel
theorem dX9_join_373 : decode cX9_join 373 = .ok (.aload_n 0, 1) := by decide +kernel
theorem dX9_join_374 : decode cX9_join 374 = .ok (.getfield 173, 3) := by decide +kernel
theorem dX9_join_377 : decode cX9_join 377 = .ok (.istore_n 3, 1) := by decide +kernel
theorem dX9_join_378 : decode cX9_join 378 = .ok (.aload_n 0, 1) := by decide +kernel
theorem dX9_join_379 : decode cX9_join 379 = .ok (.iload_n 1, 1) := by decide +kernel
theorem dX9_join_380 : decode cX9_join 380 = .ok (.putfield 173, 3) := by decide +kernel
theorem dX9_join_383 : decode cX9_join 383 = .ok (.aload_n 0, 1) := by decide +kernel
theorem dX9_join_384 : decode cX9_join 384 = .ok (.invokevirtual 340, 3) := by decide +kernel
theorem dX9_join_387 : decode cX9_join 387 = .ok (.istore 4, 2) := by decide +kernel
theorem dX9_join_389 : decode cX9_join 389 = .ok (.aload_n 0, 1) := by decide +kernel
theorem dX9_join_390 : decode cX9_join 390 = .ok (.iload_n 3, 1) := by decide +kernel
theorem dX9_join_391 : decode cX9_join 391 = .ok (.putfield 173, 3) := by decide +kernel
theorem dX9_join_394 : decode cX9_join 394 = .ok (.aload_n 0, 1) := by decide +kernel
theorem dX9_join_395 : decode cX9_join 395 = .ok (.invokevirtual 421, 3) := by decide +kernel
theorem dX9_join_398 : decode cX9_join 398 = .ok (.ireturn, 1) := by decide +kernel
theorem dX9_told_0 : decode cX9_told 0 = .ok (.aload_n 0, 1) := by decide +kernel
theorem dX9_told_1 : decode cX9_told 1 = .ok (.iconst 0, 1) := by decide +kernel
theorem dX9_told_2 : decode cX9_told 2 = .ok (.putfield 131, 3) := by decide +kernel
theorem dX9_told_5 : decode cX9_told 5 = .ok (.iload_n 1, 1) := by decide +kernel
theorem dX9_told_6 : decode cX9_told 6 = .ok (.ifCond .ne 10, 3) := by decide +kernel
theorem dX9_told_9 : decode cX9_told 9 = .ok (.aload_n 0, 1) := by decide +kernel
theorem dX9_told_10 : decode cX9_told 10 = .ok (.getfield 324, 3) := by decide +kernel
theorem dX9_told_13 : decode cX9_told 13 = .ok (.goto 41, 3) := by decide +kernel
theorem dX9_told_16 : decode cX9_told 16 = .ok (.iload_n 1, 1) := by decide +kernel
theorem dX9_told_17 : decode cX9_told 17 = .ok (.iconst 1, 1) := by decide +kernel
theorem dX9_told_18 : decode cX9_told 18 = .ok (.if_icmp .ne 10, 3) := by decide +kernel
theorem dX9_told_21 : decode cX9_told 21 = .ok (.aload_n 0, 1) := by decide +kernel
theorem dX9_told_22 : decode cX9_told 22 = .ok (.getfield 327, 3) := by decide +kernel
theorem dX9_told_25 : decode cX9_told 25 = .ok (.goto 29, 3) := by decide +kernel
theorem dX9_told_28 : decode cX9_told 28 = .ok (.iload_n 1, 1) := by decide +kernel
theorem dX9_told_29 : decode cX9_told 29 = .ok (.iconst 2, 1) := by decide +kernel
theorem dX9_told_30 : decode cX9_told 30 = .ok (.if_icmp .ne 10, 3) := by decide +kernel
theorem dX9_told_33 : decode cX9_told 33 = .ok (.aload_n 0, 1) := by decide +kernel
theorem dX9_told_34 : decode cX9_told 34 = .ok (.getfield 330, 3) := by decide +kernel
theorem dX9_told_37 : decode cX9_told 37 = .ok (.goto 17, 3) := by decide +kernel
theorem dX9_told_40 : decode cX9_told 40 = .ok (.iload_n 1, 1) := by decide +kernel
theorem dX9_told_41 : decode cX9_told 41 = .ok (.iconst 3, 1) := by decide +kernel
theorem dX9_told_42 : decode cX9_told 42 = .ok (.if_icmp .ne 10, 3) := by decide +kernel
theorem dX9_told_45 : decode cX9_told 45 = .ok (.aload_n 0, 1) := by decide +kernel
theorem dX9_told_46 : decode cX9_told 46 = .ok (.getfield 333, 3) := by decide +kernel
theorem dX9_told_49 : decode cX9_told 49 = .ok (.goto 5, 3) := by decide +kernel
theorem dX9_told_52 : decode cX9_told 52 = .ok (.bipush (-2), 2) := by decide +kernel
theorem dX9_told_54 : decode cX9_told 54 = .ok (.ireturn, 1) := by decide +kernel
theorem dX9_instruction_0 : decode cX9_instruction 0 = .ok (.aload_n 0, 1) := by decide +kernel
theorem dX9_instruction_1 : decode cX9_instruction 1 = .ok (.iconst 0, 1) := by decide +kernel
theorem dX9_instruction_2 : decode cX9_instruction 2 = .ok (.putfield 131, 3) := by decide +kernel
theorem dX9_instruction_5 : decode cX9_instruction 5 = .ok (.iload_n 1, 1) := by decide +kernel
theorem dX9_instruction_6 : decode cX9_instruction 6 = .ok (.i2l, 1) := by decide +kernel
theorem dX9_instruction_7 : decode cX9_instruction 7 = .ok (.lconst 0, 1) := by decide +kernel
theorem dX9_instruction_8 : decode cX9_instruction 8 = .ok (.aload_n 0, 1) := by decide +kernel
theorem dX9_instruction_9 : decode cX9_instruction 9 = .ok (.getfield 176, 3) := by decide +kernel
theorem dX9_instruction_12 : decode cX9_instruction 12 = .ok (.iconst 1, 1) := by decide +kernel
theorem dX9_instruction_13 : decode cX9_instruction 13 = .ok (.isub, 1) := by decide +kernel
theorem dX9_instruction_14 : decode cX9_instruction 14 = .ok (.i2l, 1) := by decide +kernel
theorem dX9_instruction_15 : decode cX9_instruction 15 = .ok (.invokestatic 136, 3) := by decide +kernel
theorem dX9_instruction_18 : decode cX9_instruction 18 = .ok (.ifCond .ne 5, 3) := by decide +kernel
theorem dX9_instruction_21 : decode cX9_instruction 21 = .ok (.iconst (-1), 1) := by decide +kernel
theorem dX9_instruction_22 : decode cX9_instruction 22 = .ok (.ireturn, 1) := by decide +kernel
theorem dX9_instruction_23 : decode cX9_instruction 23 = .ok (.iload_n 2, 1) := by decide +kernel
theorem dX9_instruction_24 : decode cX9_instruction 24 = .ok (.tableswitch 82 0 5 #[40, 47, 54, 61, 68, 75], 40) := by decide +kernel
theorem dX9_instruction_64 : decode cX9_instruction 64 = .ok (.aload_n 0, 1) := by decide +kernel
theorem dX9_instruction_65 : decode cX9_instruction 65 = .ok (.getfield 40, 3) := by decide +kernel
theorem dX9_instruction_68 : decode cX9_instruction 68 = .ok (.iload_n 1, 1) := by decide +kernel
theorem dX9_instruction_69 : decode cX9_instruction 69 = .ok (.iaload, 1) := by decide +kernel
theorem dX9_instruction_70 : decode cX9_instruction 70 = .ok (.ireturn, 1) := by decide +kernel
theorem dX9_instruction_71 : decode cX9_instruction 71 = .ok (.aload_n 0, 1) := by decide +kernel
theorem dX9_instruction_72 : decode cX9_instruction 72 = .ok (.getfield 43, 3) := by decide +kernel
theorem dX9_instruction_75 : decode cX9_instruction 75 = .ok (.iload_n 1, 1) := by decide +kernel
theorem dX9_instruction_76 : decode cX9_instruction 76 = .ok (.iaload, 1) := by decide +kernel
theorem dX9_instruction_77 : decode cX9_instruction 77 = .ok (.ireturn, 1) := by decide +kernel
theorem dX9_instruction_78 : decode cX9_instruction 78 = .ok (.aload_n 0, 1) := by decide +kernel
theorem dX9_instruction_79 : decode cX9_instruction 79 = .ok (.getfield 46, 3) := by decide +kernel
theorem dX9_instruction_82 : decode cX9_instruction 82 = .ok (.iload_n 1, 1) := by decide +kernel
theorem dX9_instruction_83 : decode cX9_instruction 83 = .ok (.iaload, 1) := by decide +kernel
theorem dX9_instruction_84 : decode cX9_instruction 84 = .ok (.ireturn, 1) := by decide +kernel
theorem dX9_instruction_85 : decode cX9_instruction 85 = .ok (.aload_n 0, 1) := by decide +kernel
theorem dX9_instruction_86 : decode cX9_instruction 86 = .ok (.getfield 49, 3) := by decide +kernel
theorem dX9_instruction_89 : decode cX9_instruction 89 = .ok (.iload_n 1, 1) := by decide +kernel
theorem dX9_instruction_90 : decode cX9_instruction 90 = .ok (.iaload, 1) := by decide +kernel
theorem dX9_instruction_91 : decode cX9_instruction 91 = .ok (.ireturn, 1) := by decide +kernel
theorem dX9_instruction_92 : decode cX9_instruction 92 = .ok (.aload_n 0, 1) := by decide +kernel
theorem dX9_instruction_93 : decode cX9_instruction 93 = .ok (.getfield 52, 3) := by decide +kernel
theorem dX9_instruction_96 : decode cX9_instruction 96 = .ok (.iload_n 1, 1) := by decide +kernel
theorem dX9_instruction_97 : decode cX9_instruction 97 = .ok (.iaload, 1) := by decide +kernel
theorem dX9_instruction_98 : decode cX9_instruction 98 = .ok (.ireturn, 1) := by decide +kernel
theorem dX9_instruction_99 : decode cX9_instruction 99 = .ok (.aload_n 0, 1) := by decide +kernel
theorem dX9_instruction_100 : decode cX9_instruction 100 = .ok (.getfield 55, 3) := by decide +kernel
theorem dX9_instruction_103 : decode cX9_instruction 103 = .ok (.iload_n 1, 1) := by decide +kernel
theorem dX9_instruction_104 : decode cX9_instruction 104 = .ok (.iaload, 1) := by decide +kernel
theorem dX9_instruction_105 : decode cX9_instruction 105 = .ok (.ireturn, 1) := by decide +kernel
theorem dX9_instruction_106 : decode cX9_instruction 106 = .ok (.bipush (-2), 2) := by decide +kernel
theorem dX9_instruction_108 : decode cX9_instruction 108 = .ok (.ireturn, 1) := by decide +kernel
