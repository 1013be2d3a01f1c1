theorem d_Mo_readPart_0 : decode cd_Mo_readPart 0 = .ok (.lload_n 1, 1) := by decide +kernel
theorem d_Mo_readPart_1 : decode cd_Mo_readPart 1 = .ok (.ldc2_w 162, 3) := by decide +kernel
theorem d_Mo_readPart_4 : decode cd_Mo_readPart 4 = .ok (.lcmp, 1) := by decide +kernel
theorem d_Mo_readPart_5 : decode cd_Mo_readPart 5 = .ok (.ifCond .lt 7, 3) := by decide +kernel
theorem d_Mo_readPart_8 : decode cd_Mo_readPart 8 = .ok (.iconst 1, 1) := by decide +kernel
theorem d_Mo_readPart_9 : decode cd_Mo_readPart 9 = .ok (.goto 4, 3) := by decide +kernel
theorem d_Mo_readPart_12 : decode cd_Mo_readPart 12 = .ok (.iconst 0, 1) := by decide +kernel
theorem d_Mo_readPart_13 : decode cd_Mo_readPart 13 = .ok (.istore 7, 2) := by decide +kernel
theorem d_Mo_readPart_15 : decode cd_Mo_readPart 15 = .ok (.iload 7, 2) := by decide +kernel
theorem d_Mo_readPart_17 : decode cd_Mo_readPart 17 = .ok (.ifCond .eq 11, 3) := by decide +kernel
theorem d_Mo_readPart_20 : decode cd_Mo_readPart 20 = .ok (.lload_n 1, 1) := by decide +kernel
theorem d_Mo_readPart_21 : decode cd_Mo_readPart 21 = .ok (.ldc2_w 162, 3) := by decide +kernel
theorem d_Mo_readPart_24 : decode cd_Mo_readPart 24 = .ok (.lsub, 1) := by decide +kernel
theorem d_Mo_readPart_25 : decode cd_Mo_readPart 25 = .ok (.goto 4, 3) := by decide +kernel
theorem d_Mo_readPart_28 : decode cd_Mo_readPart 28 = .ok (.lload_n 1, 1) := by decide +kernel
theorem d_Mo_readPart_29 : decode cd_Mo_readPart 29 = .ok (.lstore 8, 2) := by decide +kernel
theorem d_Mo_readPart_31 : decode cd_Mo_readPart 31 = .ok (.lload 8, 2) := by decide +kernel
theorem d_Mo_readPart_33 : decode cd_Mo_readPart 33 = .ok (.iload 4, 2) := by decide +kernel
theorem d_Mo_readPart_35 : decode cd_Mo_readPart 35 = .ok (.i2l, 1) := by decide +kernel
theorem d_Mo_readPart_36 : decode cd_Mo_readPart 36 = .ok (.lcmp, 1) := by decide +kernel
theorem d_Mo_readPart_37 : decode cd_Mo_readPart 37 = .ok (.ifCond .le 14, 3) := by decide +kernel
theorem d_Mo_readPart_40 : decode cd_Mo_readPart 40 = .ok (.aload_n 0, 1) := by decide +kernel
theorem d_Mo_readPart_41 : decode cd_Mo_readPart 41 = .ok (.bipush 7, 2) := by decide +kernel
theorem d_Mo_readPart_43 : decode cd_Mo_readPart 43 = .ok (.aload_n 0, 1) := by decide +kernel
theorem d_Mo_readPart_44 : decode cd_Mo_readPart 44 = .ok (.getfield 127, 3) := by decide +kernel
theorem d_Mo_readPart_47 : decode cd_Mo_readPart 47 = .ok (.invokevirtual 167, 3) := by decide +kernel
theorem d_Mo_readPart_50 : decode cd_Mo_readPart 50 = .ok (.ireturn, 1) := by decide +kernel
theorem d_Mo_readPart_51 : decode cd_Mo_readPart 51 = .ok (.aload_n 0, 1) := by decide +kernel
theorem d_Mo_readPart_52 : decode cd_Mo_readPart 52 = .ok (.dup, 1) := by decide +kernel
theorem d_Mo_readPart_53 : decode cd_Mo_readPart 53 = .ok (.getfield 127, 3) := by decide +kernel
theorem d_Mo_readPart_56 : decode cd_Mo_readPart 56 = .ok (.iconst 4, 1) := by decide +kernel
theorem d_Mo_readPart_57 : decode cd_Mo_readPart 57 = .ok (.iadd, 1) := by decide +kernel
theorem d_Mo_readPart_58 : decode cd_Mo_readPart 58 = .ok (.putfield 127, 3) := by decide +kernel
theorem d_Mo_readPart_61 : decode cd_Mo_readPart 61 = .ok (.aload_n 0, 1) := by decide +kernel
theorem d_Mo_readPart_62 : decode cd_Mo_readPart 62 = .ok (.getfield 127, 3) := by decide +kernel
theorem d_Mo_readPart_65 : decode cd_Mo_readPart 65 = .ok (.istore 10, 2) := by decide +kernel
theorem d_Mo_readPart_67 : decode cd_Mo_readPart 67 = .ok (.lload 8, 2) := by decide +kernel
theorem d_Mo_readPart_69 : decode cd_Mo_readPart 69 = .ok (.aload_n 0, 1) := by decide +kernel
theorem d_Mo_readPart_70 : decode cd_Mo_readPart 70 = .ok (.getfield 38, 3) := by decide +kernel
theorem d_Mo_readPart_73 : decode cd_Mo_readPart 73 = .ok (.aload_n 0, 1) := by decide +kernel
theorem d_Mo_readPart_74 : decode cd_Mo_readPart 74 = .ok (.getfield 127, 3) := by decide +kernel
theorem d_Mo_readPart_77 : decode cd_Mo_readPart 77 = .ok (.isub, 1) := by decide +kernel
theorem d_Mo_readPart_78 : decode cd_Mo_readPart 78 = .ok (.i2l, 1) := by decide +kernel
theorem d_Mo_readPart_79 : decode cd_Mo_readPart 79 = .ok (.lcmp, 1) := by decide +kernel
theorem d_Mo_readPart_80 : decode cd_Mo_readPart 80 = .ok (.ifCond .le 13, 3) := by decide +kernel
theorem d_Mo_readPart_83 : decode cd_Mo_readPart 83 = .ok (.aload_n 0, 1) := by decide +kernel
theorem d_Mo_readPart_84 : decode cd_Mo_readPart 84 = .ok (.iconst 1, 1) := by decide +kernel
theorem d_Mo_readPart_85 : decode cd_Mo_readPart 85 = .ok (.aload_n 0, 1) := by decide +kernel
theorem d_Mo_readPart_86 : decode cd_Mo_readPart 86 = .ok (.getfield 38, 3) := by decide +kernel
theorem d_Mo_readPart_89 : decode cd_Mo_readPart 89 = .ok (.invokevirtual 167, 3) := by decide +kernel
theorem d_Mo_readPart_92 : decode cd_Mo_readPart 92 = .ok (.ireturn, 1) := by decide +kernel
theorem d_Mo_readPart_93 : decode cd_Mo_readPart 93 = .ok (.iload 10, 2) := by decide +kernel
theorem d_Mo_readPart_95 : decode cd_Mo_readPart 95 = .ok (.lload 8, 2) := by decide +kernel
theorem d_Mo_readPart_97 : decode cd_Mo_readPart 97 = .ok (.l2i, 1) := by decide +kernel
theorem d_Mo_readPart_98 : decode cd_Mo_readPart 98 = .ok (.iadd, 1) := by decide +kernel
theorem d_Mo_readPart_99 : decode cd_Mo_readPart 99 = .ok (.istore 11, 2) := by decide +kernel
theorem d_Mo_readPart_101 : decode cd_Mo_readPart 101 = .ok (.aload_n 0, 1) := by decide +kernel
theorem d_Mo_readPart_102 : decode cd_Mo_readPart 102 = .ok (.iload 11, 2) := by decide +kernel
theorem d_Mo_readPart_104 : decode cd_Mo_readPart 104 = .ok (.putfield 127, 3) := by decide +kernel
theorem d_Mo_readPart_107 : decode cd_Mo_readPart 107 = .ok (.iload_n 3, 1) := by decide +kernel
theorem d_Mo_readPart_108 : decode cd_Mo_readPart 108 = .ok (.bipush 16, 2) := by decide +kernel
theorem d_Mo_readPart_110 : decode cd_Mo_readPart 110 = .ok (.iand, 1) := by decide +kernel
theorem d_Mo_readPart_111 : decode cd_Mo_readPart 111 = .ok (.ifCond .eq 67, 3) := by decide +kernel
theorem d_Mo_readPart_114 : decode cd_Mo_readPart 114 = .ok (.aload_n 0, 1) := by decide +kernel
theorem d_Mo_readPart_115 : decode cd_Mo_readPart 115 = .ok (.iconst 4, 1) := by decide +kernel
theorem d_Mo_readPart_116 : decode cd_Mo_readPart 116 = .ok (.invokevirtual 164, 3) := by decide +kernel
theorem d_Mo_readPart_119 : decode cd_Mo_readPart 119 = .ok (.ifCond .ne 13, 3) := by decide +kernel
theorem d_Mo_readPart_122 : decode cd_Mo_readPart 122 = .ok (.aload_n 0, 1) := by decide +kernel
theorem d_Mo_readPart_123 : decode cd_Mo_readPart 123 = .ok (.iconst 1, 1) := by decide +kernel
theorem d_Mo_readPart_124 : decode cd_Mo_readPart 124 = .ok (.aload_n 0, 1) := by decide +kernel
theorem d_Mo_readPart_125 : decode cd_Mo_readPart 125 = .ok (.getfield 38, 3) := by decide +kernel
theorem d_Mo_readPart_128 : decode cd_Mo_readPart 128 = .ok (.invokevirtual 167, 3) := by decide +kernel
theorem d_Mo_readPart_131 : decode cd_Mo_readPart 131 = .ok (.ireturn, 1) := by decide +kernel
theorem d_Mo_readPart_132 : decode cd_Mo_readPart 132 = .ok (.aload_n 0, 1) := by decide +kernel
theorem d_Mo_readPart_133 : decode cd_Mo_readPart 133 = .ok (.aload_n 0, 1) := by decide +kernel
theorem d_Mo_readPart_134 : decode cd_Mo_readPart 134 = .ok (.getfield 127, 3) := by decide +kernel
theorem d_Mo_readPart_137 : decode cd_Mo_readPart 137 = .ok (.iconst 4, 1) := by decide +kernel
theorem d_Mo_readPart_138 : decode cd_Mo_readPart 138 = .ok (.invokevirtual 170, 3) := by decide +kernel
theorem d_Mo_readPart_141 : decode cd_Mo_readPart 141 = .ok (.aload_n 0, 1) := by decide +kernel
theorem d_Mo_readPart_142 : decode cd_Mo_readPart 142 = .ok (.aload_n 0, 1) := by decide +kernel
theorem d_Mo_readPart_143 : decode cd_Mo_readPart 143 = .ok (.getfield 7, 3) := by decide +kernel
theorem d_Mo_readPart_146 : decode cd_Mo_readPart 146 = .ok (.iload 10, 2) := by decide +kernel
theorem d_Mo_readPart_148 : decode cd_Mo_readPart 148 = .ok (.iload 11, 2) := by decide +kernel
theorem d_Mo_readPart_150 : decode cd_Mo_readPart 150 = .ok (.invokevirtual 74, 3) := by decide +kernel
theorem d_Mo_readPart_153 : decode cd_Mo_readPart 153 = .ok (.lcmp, 1) := by decide +kernel
theorem d_Mo_readPart_154 : decode cd_Mo_readPart 154 = .ok (.ifCond .eq 14, 3) := by decide +kernel
theorem d_Mo_readPart_157 : decode cd_Mo_readPart 157 = .ok (.aload_n 0, 1) := by decide +kernel
theorem d_Mo_readPart_158 : decode cd_Mo_readPart 158 = .ok (.bipush 8, 2) := by decide +kernel
theorem d_Mo_readPart_160 : decode cd_Mo_readPart 160 = .ok (.aload_n 0, 1) := by decide +kernel
theorem d_Mo_readPart_161 : decode cd_Mo_readPart 161 = .ok (.getfield 127, 3) := by decide +kernel
theorem d_Mo_readPart_164 : decode cd_Mo_readPart 164 = .ok (.invokevirtual 167, 3) := by decide +kernel
theorem d_Mo_readPart_167 : decode cd_Mo_readPart 167 = .ok (.ireturn, 1) := by decide +kernel
theorem d_Mo_readPart_168 : decode cd_Mo_readPart 168 = .ok (.aload_n 0, 1) := by decide +kernel
theorem d_Mo_readPart_169 : decode cd_Mo_readPart 169 = .ok (.dup, 1) := by decide +kernel
theorem d_Mo_readPart_170 : decode cd_Mo_readPart 170 = .ok (.getfield 127, 3) := by decide +kernel
theorem d_Mo_readPart_173 : decode cd_Mo_readPart 173 = .ok (.iconst 4, 1) := by decide +kernel
theorem d_Mo_readPart_174 : decode cd_Mo_readPart 174 = .ok (.iadd, 1) := by decide +kernel
theorem d_Mo_readPart_175 : decode cd_Mo_readPart 175 = .ok (.putfield 127, 3) := by decide +kernel
theorem d_Mo_readPart_178 : decode cd_Mo_readPart 178 = .ok (.aload_n 0, 1) := by decide +kernel
theorem d_Mo_readPart_179 : decode cd_Mo_readPart 179 = .ok (.getfield 127, 3) := by decide +kernel
theorem d_Mo_readPart_182 : decode cd_Mo_readPart 182 = .ok (.istore 12, 2) := by decide +kernel
theorem d_Mo_readPart_184 : decode cd_Mo_readPart 184 = .ok (.iload 6, 2) := by decide +kernel
theorem d_Mo_readPart_186 : decode cd_Mo_readPart 186 = .ok (.aload_n 0, 1) := by decide +kernel
theorem d_Mo_readPart_187 : decode cd_Mo_readPart 187 = .ok (.getfield 182, 3) := by decide +kernel
theorem d_Mo_readPart_190 : decode cd_Mo_readPart 190 = .ok (.isub, 1) := by decide +kernel
theorem d_Mo_readPart_191 : decode cd_Mo_readPart 191 = .ok (.istore 13, 2) := by decide +kernel
theorem d_Mo_readPart_193 : decode cd_Mo_readPart 193 = .ok (.iload 7, 2) := by decide +kernel
theorem d_Mo_readPart_195 : decode cd_Mo_readPart 195 = .ok (.ifCond .eq 68, 3) := by decide +kernel
theorem d_Mo_readPart_198 : decode cd_Mo_readPart 198 = .ok (.lload 8, 2) := by decide +kernel
theorem d_Mo_readPart_200 : decode cd_Mo_readPart 200 = .ok (.iload 13, 2) := by decide +kernel
theorem d_Mo_readPart_202 : decode cd_Mo_readPart 202 = .ok (.i2l, 1) := by decide +kernel
theorem d_Mo_readPart_203 : decode cd_Mo_readPart 203 = .ok (.lcmp, 1) := by decide +kernel
theorem d_Mo_readPart_204 : decode cd_Mo_readPart 204 = .ok (.ifCond .le 14, 3) := by decide +kernel
theorem d_Mo_readPart_207 : decode cd_Mo_readPart 207 = .ok (.aload_n 0, 1) := by decide +kernel
theorem d_Mo_readPart_208 : decode cd_Mo_readPart 208 = .ok (.iconst 3, 1) := by decide +kernel
theorem d_Mo_readPart_209 : decode cd_Mo_readPart 209 = .ok (.iload 10, 2) := by decide +kernel
theorem d_Mo_readPart_211 : decode cd_Mo_readPart 211 = .ok (.iload 13, 2) := by decide +kernel
theorem d_Mo_readPart_213 : decode cd_Mo_readPart 213 = .ok (.iadd, 1) := by decide +kernel
theorem d_Mo_readPart_214 : decode cd_Mo_readPart 214 = .ok (.invokevirtual 167, 3) := by decide +kernel
theorem d_Mo_readPart_217 : decode cd_Mo_readPart 217 = .ok (.ireturn, 1) := by decide +kernel
theorem d_Mo_readPart_218 : decode cd_Mo_readPart 218 = .ok (.iload 10, 2) := by decide +kernel
theorem d_Mo_readPart_220 : decode cd_Mo_readPart 220 = .ok (.istore 14, 2) := by decide +kernel
theorem d_Mo_readPart_222 : decode cd_Mo_readPart 222 = .ok (.iload 14, 2) := by decide +kernel
theorem d_Mo_readPart_224 : decode cd_Mo_readPart 224 = .ok (.iload 11, 2) := by decide +kernel
theorem d_Mo_readPart_226 : decode cd_Mo_readPart 226 = .ok (.if_icmp .ge 35, 3) := by decide +kernel
theorem d_Mo_readPart_229 : decode cd_Mo_readPart 229 = .ok (.aload_n 0, 1) := by decide +kernel
theorem d_Mo_readPart_230 : decode cd_Mo_readPart 230 = .ok (.getfield 31, 3) := by decide +kernel
theorem d_Mo_readPart_233 : decode cd_Mo_readPart 233 = .ok (.aload_n 0, 1) := by decide +kernel
theorem d_Mo_readPart_234 : decode cd_Mo_readPart 234 = .ok (.getfield 182, 3) := by decide +kernel
theorem d_Mo_readPart_237 : decode cd_Mo_readPart 237 = .ok (.aload_n 0, 1) := by decide +kernel
theorem d_Mo_readPart_238 : decode cd_Mo_readPart 238 = .ok (.getfield 7, 3) := by decide +kernel
theorem d_Mo_readPart_241 : decode cd_Mo_readPart 241 = .ok (.iload 14, 2) := by decide +kernel
theorem d_Mo_readPart_243 : decode cd_Mo_readPart 243 = .ok (.iaload, 1) := by decide +kernel
theorem d_Mo_readPart_244 : decode cd_Mo_readPart 244 = .ok (.iastore, 1) := by decide +kernel
theorem d_Mo_readPart_245 : decode cd_Mo_readPart 245 = .ok (.aload_n 0, 1) := by decide +kernel
theorem d_Mo_readPart_246 : decode cd_Mo_readPart 246 = .ok (.dup, 1) := by decide +kernel
theorem d_Mo_readPart_247 : decode cd_Mo_readPart 247 = .ok (.getfield 182, 3) := by decide +kernel
theorem d_Mo_readPart_250 : decode cd_Mo_readPart 250 = .ok (.iconst 1, 1) := by decide +kernel
theorem d_Mo_readPart_251 : decode cd_Mo_readPart 251 = .ok (.iadd, 1) := by decide +kernel
theorem d_Mo_readPart_252 : decode cd_Mo_readPart 252 = .ok (.putfield 182, 3) := by decide +kernel
theorem d_Mo_readPart_255 : decode cd_Mo_readPart 255 = .ok (.iinc 14 1, 3) := by decide +kernel
theorem d_Mo_readPart_258 : decode cd_Mo_readPart 258 = .ok (.goto (-36), 3) := by decide +kernel
theorem d_Mo_readPart_261 : decode cd_Mo_readPart 261 = .ok (.iconst 0, 1) := by decide +kernel
theorem d_Mo_readPart_262 : decode cd_Mo_readPart 262 = .ok (.ireturn, 1) := by decide +kernel
theorem d_Mo_readPart_263 : decode cd_Mo_readPart 263 = .ok (.aload_n 0, 1) := by decide +kernel
theorem d_Mo_readPart_264 : decode cd_Mo_readPart 264 = .ok (.invokevirtual 140, 3) := by decide +kernel
theorem d_Mo_readPart_267 : decode cd_Mo_readPart 267 = .ok (.iload 5, 2) := by decide +kernel
theorem d_Mo_readPart_269 : decode cd_Mo_readPart 269 = .ok (.istore 14, 2) := by decide +kernel
theorem d_Mo_readPart_271 : decode cd_Mo_readPart 271 = .ok (.iload 14, 2) := by decide +kernel
theorem d_Mo_readPart_273 : decode cd_Mo_readPart 273 = .ok (.aload_n 0, 1) := by decide +kernel
theorem d_Mo_readPart_274 : decode cd_Mo_readPart 274 = .ok (.getfield 182, 3) := by decide +kernel
theorem d_Mo_readPart_277 : decode cd_Mo_readPart 277 = .ok (.if_icmp .ge 42, 3) := by decide +kernel
theorem d_Mo_readPart_280 : decode cd_Mo_readPart 280 = .ok (.iload_n 3, 1) := by decide +kernel
theorem d_Mo_readPart_281 : decode cd_Mo_readPart 281 = .ok (.bipush 32, 2) := by decide +kernel
theorem d_Mo_readPart_283 : decode cd_Mo_readPart 283 = .ok (.iand, 1) := by decide +kernel
theorem d_Mo_readPart_284 : decode cd_Mo_readPart 284 = .ok (.ifCond .ne 35, 3) := by decide +kernel
theorem d_Mo_readPart_287 : decode cd_Mo_readPart 287 = .ok (.aload_n 0, 1) := by decide +kernel
theorem d_Mo_readPart_288 : decode cd_Mo_readPart 288 = .ok (.getfield 28, 3) := by decide +kernel
theorem d_Mo_readPart_291 : decode cd_Mo_readPart 291 = .ok (.aload_n 0, 1) := by decide +kernel
theorem d_Mo_readPart_292 : decode cd_Mo_readPart 292 = .ok (.getfield 130, 3) := by decide +kernel
theorem d_Mo_readPart_295 : decode cd_Mo_readPart 295 = .ok (.aload_n 0, 1) := by decide +kernel
theorem d_Mo_readPart_296 : decode cd_Mo_readPart 296 = .ok (.getfield 31, 3) := by decide +kernel
theorem d_Mo_readPart_299 : decode cd_Mo_readPart 299 = .ok (.iload 14, 2) := by decide +kernel
theorem d_Mo_readPart_301 : decode cd_Mo_readPart 301 = .ok (.iaload, 1) := by decide +kernel
theorem d_Mo_readPart_302 : decode cd_Mo_readPart 302 = .ok (.iastore, 1) := by decide +kernel
theorem d_Mo_readPart_303 : decode cd_Mo_readPart 303 = .ok (.aload_n 0, 1) := by decide +kernel
theorem d_Mo_readPart_304 : decode cd_Mo_readPart 304 = .ok (.dup, 1) := by decide +kernel
theorem d_Mo_readPart_305 : decode cd_Mo_readPart 305 = .ok (.getfield 130, 3) := by decide +kernel
theorem d_Mo_readPart_308 : decode cd_Mo_readPart 308 = .ok (.iconst 1, 1) := by decide +kernel
theorem d_Mo_readPart_309 : decode cd_Mo_readPart 309 = .ok (.iadd, 1) := by decide +kernel
theorem d_Mo_readPart_310 : decode cd_Mo_readPart 310 = .ok (.putfield 130, 3) := by decide +kernel
theorem d_Mo_readPart_313 : decode cd_Mo_readPart 313 = .ok (.iinc 14 1, 3) := by decide +kernel
theorem d_Mo_readPart_316 : decode cd_Mo_readPart 316 = .ok (.goto (-45), 3) := by decide +kernel
theorem d_Mo_readPart_319 : decode cd_Mo_readPart 319 = .ok (.aload_n 0, 1) := by decide +kernel
theorem d_Mo_readPart_320 : decode cd_Mo_readPart 320 = .ok (.getfield 130, 3) := by decide +kernel
theorem d_Mo_readPart_323 : decode cd_Mo_readPart 323 = .ok (.istore 14, 2) := by decide +kernel
theorem d_Mo_readPart_325 : decode cd_Mo_readPart 325 = .ok (.aload_n 0, 1) := by decide +kernel
theorem d_Mo_readPart_326 : decode cd_Mo_readPart 326 = .ok (.iload 10, 2) := by decide +kernel
theorem d_Mo_readPart_328 : decode cd_Mo_readPart 328 = .ok (.iload 11, 2) := by decide +kernel
theorem d_Mo_readPart_330 : decode cd_Mo_readPart 330 = .ok (.iload 13, 2) := by decide +kernel
theorem d_Mo_readPart_332 : decode cd_Mo_readPart 332 = .ok (.invokevirtual 143, 3) := by decide +kernel
theorem d_Mo_readPart_335 : decode cd_Mo_readPart 335 = .ok (.istore 15, 2) := by decide +kernel
theorem d_Mo_readPart_337 : decode cd_Mo_readPart 337 = .ok (.iload 15, 2) := by decide +kernel
theorem d_Mo_readPart_339 : decode cd_Mo_readPart 339 = .ok (.ifCond .le 17, 3) := by decide +kernel
theorem d_Mo_readPart_342 : decode cd_Mo_readPart 342 = .ok (.iload 15, 2) := by decide +kernel
theorem d_Mo_readPart_344 : decode cd_Mo_readPart 344 = .ok (.iconst 1, 1) := by decide +kernel
theorem d_Mo_readPart_345 : decode cd_Mo_readPart 345 = .ok (.if_icmp .ne 8, 3) := by decide +kernel
theorem d_Mo_readPart_348 : decode cd_Mo_readPart 348 = .ok (.bipush 9, 2) := by decide +kernel
theorem d_Mo_readPart_350 : decode cd_Mo_readPart 350 = .ok (.goto 5, 3) := by decide +kernel
theorem d_Mo_readPart_353 : decode cd_Mo_readPart 353 = .ok (.iload 15, 2) := by decide +kernel
theorem d_Mo_readPart_355 : decode cd_Mo_readPart 355 = .ok (.ireturn, 1) := by decide +kernel
theorem d_Mo_readPart_356 : decode cd_Mo_readPart 356 = .ok (.iload 14, 2) := by decide +kernel
theorem d_Mo_readPart_358 : decode cd_Mo_readPart 358 = .ok (.istore 16, 2) := by decide +kernel
theorem d_Mo_readPart_360 : decode cd_Mo_readPart 360 = .ok (.iload 16, 2) := by decide +kernel
theorem d_Mo_readPart_362 : decode cd_Mo_readPart 362 = .ok (.aload_n 0, 1) := by decide +kernel
theorem d_Mo_readPart_363 : decode cd_Mo_readPart 363 = .ok (.getfield 130, 3) := by decide +kernel
theorem d_Mo_readPart_366 : decode cd_Mo_readPart 366 = .ok (.if_icmp .ge 35, 3) := by decide +kernel
theorem d_Mo_readPart_369 : decode cd_Mo_readPart 369 = .ok (.aload_n 0, 1) := by decide +kernel
theorem d_Mo_readPart_370 : decode cd_Mo_readPart 370 = .ok (.getfield 31, 3) := by decide +kernel
theorem d_Mo_readPart_373 : decode cd_Mo_readPart 373 = .ok (.aload_n 0, 1) := by decide +kernel
theorem d_Mo_readPart_374 : decode cd_Mo_readPart 374 = .ok (.getfield 182, 3) := by decide +kernel
theorem d_Mo_readPart_377 : decode cd_Mo_readPart 377 = .ok (.aload_n 0, 1) := by decide +kernel
theorem d_Mo_readPart_378 : decode cd_Mo_readPart 378 = .ok (.getfield 28, 3) := by decide +kernel
theorem d_Mo_readPart_381 : decode cd_Mo_readPart 381 = .ok (.iload 16, 2) := by decide +kernel
theorem d_Mo_readPart_383 : decode cd_Mo_readPart 383 = .ok (.iaload, 1) := by decide +kernel
theorem d_Mo_readPart_384 : decode cd_Mo_readPart 384 = .ok (.iastore, 1) := by decide +kernel
theorem d_Mo_readPart_385 : decode cd_Mo_readPart 385 = .ok (.aload_n 0, 1) := by decide +kernel
theorem d_Mo_readPart_386 : decode cd_Mo_readPart 386 = .ok (.dup, 1) := by decide +kernel
theorem d_Mo_readPart_387 : decode cd_Mo_readPart 387 = .ok (.getfield 182, 3) := by decide +kernel
theorem d_Mo_readPart_390 : decode cd_Mo_readPart 390 = .ok (.iconst 1, 1) := by decide +kernel
theorem d_Mo_readPart_391 : decode cd_Mo_readPart 391 = .ok (.iadd, 1) := by decide +kernel
theorem d_Mo_readPart_392 : decode cd_Mo_readPart 392 = .ok (.putfield 182, 3) := by decide +kernel
theorem d_Mo_readPart_395 : decode cd_Mo_readPart 395 = .ok (.iinc 16 1, 3) := by decide +kernel
theorem d_Mo_readPart_398 : decode cd_Mo_readPart 398 = .ok (.goto (-38), 3) := by decide +kernel
theorem d_Mo_readPart_401 : decode cd_Mo_readPart 401 = .ok (.aload_n 0, 1) := by decide +kernel
theorem d_Mo_readPart_402 : decode cd_Mo_readPart 402 = .ok (.iload 12, 2) := by decide +kernel
theorem d_Mo_readPart_404 : decode cd_Mo_readPart 404 = .ok (.putfield 127, 3) := by decide +kernel
theorem d_Mo_readPart_407 : decode cd_Mo_readPart 407 = .ok (.iconst 0, 1) := by decide +kernel
theorem d_Mo_readPart_408 : decode cd_Mo_readPart 408 = .ok (.ireturn, 1) := by decide +kernel
theorem d_Mo_place_0 : decode cd_Mo_place 0 = .ok (.aload_n 0, 1) := by decide +kernel
theorem d_Mo_place_1 : decode cd_Mo_place 1 = .ok (.getfield 133, 3) := by decide +kernel
theorem d_Mo_place_4 : decode cd_Mo_place 4 = .ok (.ireturn, 1) := by decide +kernel
theorem d_Mo_size_0 : decode cd_Mo_size 0 = .ok (.aload_n 0, 1) := by decide +kernel
theorem d_Mo_size_1 : decode cd_Mo_size 1 = .ok (.getfield 44, 3) := by decide +kernel
theorem d_Mo_size_4 : decode cd_Mo_size 4 = .ok (.ireturn, 1) := by decide +kernel
theorem d_Mo_byteAt_0 : decode cd_Mo_byteAt 0 = .ok (.iload_n 1, 1) := by decide +kernel
theorem d_Mo_byteAt_1 : decode cd_Mo_byteAt 1 = .ok (.ifCond .lt 11, 3) := by decide +kernel
theorem d_Mo_byteAt_4 : decode cd_Mo_byteAt 4 = .ok (.iload_n 1, 1) := by decide +kernel
theorem d_Mo_byteAt_5 : decode cd_Mo_byteAt 5 = .ok (.aload_n 0, 1) := by decide +kernel
theorem d_Mo_byteAt_6 : decode cd_Mo_byteAt 6 = .ok (.getfield 44, 3) := by decide +kernel
theorem d_Mo_byteAt_9 : decode cd_Mo_byteAt 9 = .ok (.if_icmp .lt 7, 3) := by decide +kernel
theorem d_Mo_byteAt_12 : decode cd_Mo_byteAt 12 = .ok (.iconst (-1), 1) := by decide +kernel
theorem d_Mo_byteAt_13 : decode cd_Mo_byteAt 13 = .ok (.goto 9, 3) := by decide +kernel
theorem d_Mo_byteAt_16 : decode cd_Mo_byteAt 16 = .ok (.aload_n 0, 1) := by decide +kernel
theorem d_Mo_byteAt_17 : decode cd_Mo_byteAt 17 = .ok (.getfield 13, 3) := by decide +kernel
theorem d_Mo_byteAt_20 : decode cd_Mo_byteAt 20 = .ok (.iload_n 1, 1) := by decide +kernel
theorem d_Mo_byteAt_21 : decode cd_Mo_byteAt 21 = .ok (.iaload, 1) := by decide +kernel
theorem d_Mo_byteAt_22 : decode cd_Mo_byteAt 22 = .ok (.ireturn, 1) := by decide +kernel
