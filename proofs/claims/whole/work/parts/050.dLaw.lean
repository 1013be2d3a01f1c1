theorem d_Law_law_0 : decode cd_Law_law 0 = .ok (.new 7, 3) := by decide +kernel
theorem d_Law_law_3 : decode cd_Law_law 3 = .ok (.dup, 1) := by decide +kernel
theorem d_Law_law_4 : decode cd_Law_law 4 = .ok (.invokespecial 9, 3) := by decide +kernel
theorem d_Law_law_7 : decode cd_Law_law 7 = .ok (.astore_n 1, 1) := by decide +kernel
theorem d_Law_law_8 : decode cd_Law_law 8 = .ok (.new 10, 3) := by decide +kernel
theorem d_Law_law_11 : decode cd_Law_law 11 = .ok (.dup, 1) := by decide +kernel
theorem d_Law_law_12 : decode cd_Law_law 12 = .ok (.invokespecial 12, 3) := by decide +kernel
theorem d_Law_law_15 : decode cd_Law_law 15 = .ok (.astore_n 2, 1) := by decide +kernel
theorem d_Law_law_16 : decode cd_Law_law 16 = .ok (.iconst 0, 1) := by decide +kernel
theorem d_Law_law_17 : decode cd_Law_law 17 = .ok (.istore_n 3, 1) := by decide +kernel
theorem d_Law_law_18 : decode cd_Law_law 18 = .ok (.iload_n 3, 1) := by decide +kernel
theorem d_Law_law_19 : decode cd_Law_law 19 = .ok (.aload_n 0, 1) := by decide +kernel
theorem d_Law_law_20 : decode cd_Law_law 20 = .ok (.arraylength, 1) := by decide +kernel
theorem d_Law_law_21 : decode cd_Law_law 21 = .ok (.bipush 6, 2) := by decide +kernel
theorem d_Law_law_23 : decode cd_Law_law 23 = .ok (.isub, 1) := by decide +kernel
theorem d_Law_law_24 : decode cd_Law_law 24 = .ok (.if_icmp .gt 405, 3) := by decide +kernel
theorem d_Law_law_27 : decode cd_Law_law 27 = .ok (.aload_n 0, 1) := by decide +kernel
theorem d_Law_law_28 : decode cd_Law_law 28 = .ok (.iload_n 3, 1) := by decide +kernel
theorem d_Law_law_29 : decode cd_Law_law 29 = .ok (.iaload, 1) := by decide +kernel
theorem d_Law_law_30 : decode cd_Law_law 30 = .ok (.bipush 15, 2) := by decide +kernel
theorem d_Law_law_32 : decode cd_Law_law 32 = .ok (.iand, 1) := by decide +kernel
theorem d_Law_law_33 : decode cd_Law_law 33 = .ok (.tableswitch 390 0 12 #[67, 130, 163, 174, 185, 196, 219, 242, 305, 328, 341, 354, 367], 67) := by decide +kernel
theorem d_Law_law_100 : decode cd_Law_law 100 = .ok (.aload_n 1, 1) := by decide +kernel
theorem d_Law_law_101 : decode cd_Law_law 101 = .ok (.aload_n 0, 1) := by decide +kernel
theorem d_Law_law_102 : decode cd_Law_law 102 = .ok (.iload_n 3, 1) := by decide +kernel
theorem d_Law_law_103 : decode cd_Law_law 103 = .ok (.iconst 1, 1) := by decide +kernel
theorem d_Law_law_104 : decode cd_Law_law 104 = .ok (.iadd, 1) := by decide +kernel
theorem d_Law_law_105 : decode cd_Law_law 105 = .ok (.iaload, 1) := by decide +kernel
theorem d_Law_law_106 : decode cd_Law_law 106 = .ok (.i2l, 1) := by decide +kernel
theorem d_Law_law_107 : decode cd_Law_law 107 = .ok (.bipush 32, 2) := by decide +kernel
theorem d_Law_law_109 : decode cd_Law_law 109 = .ok (.lshl, 1) := by decide +kernel
theorem d_Law_law_110 : decode cd_Law_law 110 = .ok (.aload_n 0, 1) := by decide +kernel
theorem d_Law_law_111 : decode cd_Law_law 111 = .ok (.iload_n 3, 1) := by decide +kernel
theorem d_Law_law_112 : decode cd_Law_law 112 = .ok (.iconst 2, 1) := by decide +kernel
theorem d_Law_law_113 : decode cd_Law_law 113 = .ok (.iadd, 1) := by decide +kernel
theorem d_Law_law_114 : decode cd_Law_law 114 = .ok (.iaload, 1) := by decide +kernel
theorem d_Law_law_115 : decode cd_Law_law 115 = .ok (.i2l, 1) := by decide +kernel
theorem d_Law_law_116 : decode cd_Law_law 116 = .ok (.ldc2_w 13, 3) := by decide +kernel
theorem d_Law_law_119 : decode cd_Law_law 119 = .ok (.land, 1) := by decide +kernel
theorem d_Law_law_120 : decode cd_Law_law 120 = .ok (.lor, 1) := by decide +kernel
theorem d_Law_law_121 : decode cd_Law_law 121 = .ok (.aload_n 0, 1) := by decide +kernel
theorem d_Law_law_122 : decode cd_Law_law 122 = .ok (.iload_n 3, 1) := by decide +kernel
theorem d_Law_law_123 : decode cd_Law_law 123 = .ok (.iconst 3, 1) := by decide +kernel
theorem d_Law_law_124 : decode cd_Law_law 124 = .ok (.iadd, 1) := by decide +kernel
theorem d_Law_law_125 : decode cd_Law_law 125 = .ok (.iaload, 1) := by decide +kernel
theorem d_Law_law_126 : decode cd_Law_law 126 = .ok (.invokevirtual 15, 3) := by decide +kernel
theorem d_Law_law_129 : decode cd_Law_law 129 = .ok (.aload_n 2, 1) := by decide +kernel
theorem d_Law_law_130 : decode cd_Law_law 130 = .ok (.aload_n 0, 1) := by decide +kernel
theorem d_Law_law_131 : decode cd_Law_law 131 = .ok (.iload_n 3, 1) := by decide +kernel
theorem d_Law_law_132 : decode cd_Law_law 132 = .ok (.iconst 1, 1) := by decide +kernel
theorem d_Law_law_133 : decode cd_Law_law 133 = .ok (.iadd, 1) := by decide +kernel
theorem d_Law_law_134 : decode cd_Law_law 134 = .ok (.iaload, 1) := by decide +kernel
theorem d_Law_law_135 : decode cd_Law_law 135 = .ok (.i2l, 1) := by decide +kernel
theorem d_Law_law_136 : decode cd_Law_law 136 = .ok (.bipush 32, 2) := by decide +kernel
theorem d_Law_law_138 : decode cd_Law_law 138 = .ok (.lshl, 1) := by decide +kernel
theorem d_Law_law_139 : decode cd_Law_law 139 = .ok (.aload_n 0, 1) := by decide +kernel
theorem d_Law_law_140 : decode cd_Law_law 140 = .ok (.iload_n 3, 1) := by decide +kernel
theorem d_Law_law_141 : decode cd_Law_law 141 = .ok (.iconst 2, 1) := by decide +kernel
theorem d_Law_law_142 : decode cd_Law_law 142 = .ok (.iadd, 1) := by decide +kernel
theorem d_Law_law_143 : decode cd_Law_law 143 = .ok (.iaload, 1) := by decide +kernel
theorem d_Law_law_144 : decode cd_Law_law 144 = .ok (.i2l, 1) := by decide +kernel
theorem d_Law_law_145 : decode cd_Law_law 145 = .ok (.ldc2_w 13, 3) := by decide +kernel
theorem d_Law_law_148 : decode cd_Law_law 148 = .ok (.land, 1) := by decide +kernel
theorem d_Law_law_149 : decode cd_Law_law 149 = .ok (.lor, 1) := by decide +kernel
theorem d_Law_law_150 : decode cd_Law_law 150 = .ok (.aload_n 0, 1) := by decide +kernel
theorem d_Law_law_151 : decode cd_Law_law 151 = .ok (.iload_n 3, 1) := by decide +kernel
theorem d_Law_law_152 : decode cd_Law_law 152 = .ok (.iconst 3, 1) := by decide +kernel
theorem d_Law_law_153 : decode cd_Law_law 153 = .ok (.iadd, 1) := by decide +kernel
theorem d_Law_law_154 : decode cd_Law_law 154 = .ok (.iaload, 1) := by decide +kernel
theorem d_Law_law_155 : decode cd_Law_law 155 = .ok (.invokevirtual 19, 3) := by decide +kernel
theorem d_Law_law_158 : decode cd_Law_law 158 = .ok (.if_icmp .eq 265, 3) := by decide +kernel
theorem d_Law_law_161 : decode cd_Law_law 161 = .ok (.iconst 0, 1) := by decide +kernel
theorem d_Law_law_162 : decode cd_Law_law 162 = .ok (.ireturn, 1) := by decide +kernel
theorem d_Law_law_163 : decode cd_Law_law 163 = .ok (.aload_n 1, 1) := by decide +kernel
theorem d_Law_law_164 : decode cd_Law_law 164 = .ok (.aload_n 0, 1) := by decide +kernel
theorem d_Law_law_165 : decode cd_Law_law 165 = .ok (.iload_n 3, 1) := by decide +kernel
theorem d_Law_law_166 : decode cd_Law_law 166 = .ok (.iconst 1, 1) := by decide +kernel
theorem d_Law_law_167 : decode cd_Law_law 167 = .ok (.iadd, 1) := by decide +kernel
theorem d_Law_law_168 : decode cd_Law_law 168 = .ok (.iaload, 1) := by decide +kernel
theorem d_Law_law_169 : decode cd_Law_law 169 = .ok (.aload_n 0, 1) := by decide +kernel
theorem d_Law_law_170 : decode cd_Law_law 170 = .ok (.iload_n 3, 1) := by decide +kernel
theorem d_Law_law_171 : decode cd_Law_law 171 = .ok (.iconst 2, 1) := by decide +kernel
theorem d_Law_law_172 : decode cd_Law_law 172 = .ok (.iadd, 1) := by decide +kernel
theorem d_Law_law_173 : decode cd_Law_law 173 = .ok (.iaload, 1) := by decide +kernel
theorem d_Law_law_174 : decode cd_Law_law 174 = .ok (.invokevirtual 20, 3) := by decide +kernel
theorem d_Law_law_177 : decode cd_Law_law 177 = .ok (.aload_n 2, 1) := by decide +kernel
theorem d_Law_law_178 : decode cd_Law_law 178 = .ok (.aload_n 0, 1) := by decide +kernel
theorem d_Law_law_179 : decode cd_Law_law 179 = .ok (.iload_n 3, 1) := by decide +kernel
theorem d_Law_law_180 : decode cd_Law_law 180 = .ok (.iconst 1, 1) := by decide +kernel
theorem d_Law_law_181 : decode cd_Law_law 181 = .ok (.iadd, 1) := by decide +kernel
theorem d_Law_law_182 : decode cd_Law_law 182 = .ok (.iaload, 1) := by decide +kernel
theorem d_Law_law_183 : decode cd_Law_law 183 = .ok (.aload_n 0, 1) := by decide +kernel
theorem d_Law_law_184 : decode cd_Law_law 184 = .ok (.iload_n 3, 1) := by decide +kernel
theorem d_Law_law_185 : decode cd_Law_law 185 = .ok (.iconst 2, 1) := by decide +kernel
theorem d_Law_law_186 : decode cd_Law_law 186 = .ok (.iadd, 1) := by decide +kernel
theorem d_Law_law_187 : decode cd_Law_law 187 = .ok (.iaload, 1) := by decide +kernel
theorem d_Law_law_188 : decode cd_Law_law 188 = .ok (.invokevirtual 24, 3) := by decide +kernel
theorem d_Law_law_191 : decode cd_Law_law 191 = .ok (.if_icmp .eq 232, 3) := by decide +kernel
theorem d_Law_law_194 : decode cd_Law_law 194 = .ok (.iconst 0, 1) := by decide +kernel
theorem d_Law_law_195 : decode cd_Law_law 195 = .ok (.ireturn, 1) := by decide +kernel
theorem d_Law_law_196 : decode cd_Law_law 196 = .ok (.aload_n 1, 1) := by decide +kernel
theorem d_Law_law_197 : decode cd_Law_law 197 = .ok (.invokevirtual 25, 3) := by decide +kernel
theorem d_Law_law_200 : decode cd_Law_law 200 = .ok (.aload_n 2, 1) := by decide +kernel
theorem d_Law_law_201 : decode cd_Law_law 201 = .ok (.invokevirtual 28, 3) := by decide +kernel
theorem d_Law_law_204 : decode cd_Law_law 204 = .ok (.goto 219, 3) := by decide +kernel
theorem d_Law_law_207 : decode cd_Law_law 207 = .ok (.aload_n 1, 1) := by decide +kernel
theorem d_Law_law_208 : decode cd_Law_law 208 = .ok (.invokevirtual 29, 3) := by decide +kernel
theorem d_Law_law_211 : decode cd_Law_law 211 = .ok (.aload_n 2, 1) := by decide +kernel
theorem d_Law_law_212 : decode cd_Law_law 212 = .ok (.invokevirtual 32, 3) := by decide +kernel
theorem d_Law_law_215 : decode cd_Law_law 215 = .ok (.goto 208, 3) := by decide +kernel
theorem d_Law_law_218 : decode cd_Law_law 218 = .ok (.aload_n 1, 1) := by decide +kernel
theorem d_Law_law_219 : decode cd_Law_law 219 = .ok (.invokevirtual 33, 3) := by decide +kernel
theorem d_Law_law_222 : decode cd_Law_law 222 = .ok (.aload_n 2, 1) := by decide +kernel
theorem d_Law_law_223 : decode cd_Law_law 223 = .ok (.invokevirtual 36, 3) := by decide +kernel
theorem d_Law_law_226 : decode cd_Law_law 226 = .ok (.goto 197, 3) := by decide +kernel
theorem d_Law_law_229 : decode cd_Law_law 229 = .ok (.aload_n 1, 1) := by decide +kernel
theorem d_Law_law_230 : decode cd_Law_law 230 = .ok (.aload_n 0, 1) := by decide +kernel
theorem d_Law_law_231 : decode cd_Law_law 231 = .ok (.iload_n 3, 1) := by decide +kernel
theorem d_Law_law_232 : decode cd_Law_law 232 = .ok (.iconst 1, 1) := by decide +kernel
theorem d_Law_law_233 : decode cd_Law_law 233 = .ok (.iadd, 1) := by decide +kernel
theorem d_Law_law_234 : decode cd_Law_law 234 = .ok (.iaload, 1) := by decide +kernel
theorem d_Law_law_235 : decode cd_Law_law 235 = .ok (.invokevirtual 37, 3) := by decide +kernel
theorem d_Law_law_238 : decode cd_Law_law 238 = .ok (.aload_n 2, 1) := by decide +kernel
theorem d_Law_law_239 : decode cd_Law_law 239 = .ok (.aload_n 0, 1) := by decide +kernel
theorem d_Law_law_240 : decode cd_Law_law 240 = .ok (.iload_n 3, 1) := by decide +kernel
theorem d_Law_law_241 : decode cd_Law_law 241 = .ok (.iconst 1, 1) := by decide +kernel
theorem d_Law_law_242 : decode cd_Law_law 242 = .ok (.iadd, 1) := by decide +kernel
theorem d_Law_law_243 : decode cd_Law_law 243 = .ok (.iaload, 1) := by decide +kernel
theorem d_Law_law_244 : decode cd_Law_law 244 = .ok (.invokevirtual 41, 3) := by decide +kernel
theorem d_Law_law_247 : decode cd_Law_law 247 = .ok (.if_icmp .eq 176, 3) := by decide +kernel
theorem d_Law_law_250 : decode cd_Law_law 250 = .ok (.iconst 0, 1) := by decide +kernel
theorem d_Law_law_251 : decode cd_Law_law 251 = .ok (.ireturn, 1) := by decide +kernel
theorem d_Law_law_252 : decode cd_Law_law 252 = .ok (.aload_n 1, 1) := by decide +kernel
theorem d_Law_law_253 : decode cd_Law_law 253 = .ok (.aload_n 0, 1) := by decide +kernel
theorem d_Law_law_254 : decode cd_Law_law 254 = .ok (.iload_n 3, 1) := by decide +kernel
theorem d_Law_law_255 : decode cd_Law_law 255 = .ok (.iconst 1, 1) := by decide +kernel
theorem d_Law_law_256 : decode cd_Law_law 256 = .ok (.iadd, 1) := by decide +kernel
theorem d_Law_law_257 : decode cd_Law_law 257 = .ok (.iaload, 1) := by decide +kernel
theorem d_Law_law_258 : decode cd_Law_law 258 = .ok (.invokevirtual 42, 3) := by decide +kernel
theorem d_Law_law_261 : decode cd_Law_law 261 = .ok (.aload_n 2, 1) := by decide +kernel
theorem d_Law_law_262 : decode cd_Law_law 262 = .ok (.aload_n 0, 1) := by decide +kernel
theorem d_Law_law_263 : decode cd_Law_law 263 = .ok (.iload_n 3, 1) := by decide +kernel
theorem d_Law_law_264 : decode cd_Law_law 264 = .ok (.iconst 1, 1) := by decide +kernel
theorem d_Law_law_265 : decode cd_Law_law 265 = .ok (.iadd, 1) := by decide +kernel
theorem d_Law_law_266 : decode cd_Law_law 266 = .ok (.iaload, 1) := by decide +kernel
theorem d_Law_law_267 : decode cd_Law_law 267 = .ok (.invokevirtual 45, 3) := by decide +kernel
theorem d_Law_law_270 : decode cd_Law_law 270 = .ok (.if_icmp .eq 153, 3) := by decide +kernel
theorem d_Law_law_273 : decode cd_Law_law 273 = .ok (.iconst 0, 1) := by decide +kernel
theorem d_Law_law_274 : decode cd_Law_law 274 = .ok (.ireturn, 1) := by decide +kernel
theorem d_Law_law_275 : decode cd_Law_law 275 = .ok (.aload_n 1, 1) := by decide +kernel
theorem d_Law_law_276 : decode cd_Law_law 276 = .ok (.aload_n 0, 1) := by decide +kernel
theorem d_Law_law_277 : decode cd_Law_law 277 = .ok (.iload_n 3, 1) := by decide +kernel
theorem d_Law_law_278 : decode cd_Law_law 278 = .ok (.iconst 1, 1) := by decide +kernel
theorem d_Law_law_279 : decode cd_Law_law 279 = .ok (.iadd, 1) := by decide +kernel
theorem d_Law_law_280 : decode cd_Law_law 280 = .ok (.iaload, 1) := by decide +kernel
theorem d_Law_law_281 : decode cd_Law_law 281 = .ok (.aload_n 0, 1) := by decide +kernel
theorem d_Law_law_282 : decode cd_Law_law 282 = .ok (.iload_n 3, 1) := by decide +kernel
theorem d_Law_law_283 : decode cd_Law_law 283 = .ok (.iconst 2, 1) := by decide +kernel
theorem d_Law_law_284 : decode cd_Law_law 284 = .ok (.iadd, 1) := by decide +kernel
theorem d_Law_law_285 : decode cd_Law_law 285 = .ok (.iaload, 1) := by decide +kernel
theorem d_Law_law_286 : decode cd_Law_law 286 = .ok (.aload_n 0, 1) := by decide +kernel
theorem d_Law_law_287 : decode cd_Law_law 287 = .ok (.iload_n 3, 1) := by decide +kernel
theorem d_Law_law_288 : decode cd_Law_law 288 = .ok (.iconst 3, 1) := by decide +kernel
theorem d_Law_law_289 : decode cd_Law_law 289 = .ok (.iadd, 1) := by decide +kernel
theorem d_Law_law_290 : decode cd_Law_law 290 = .ok (.iaload, 1) := by decide +kernel
theorem d_Law_law_291 : decode cd_Law_law 291 = .ok (.aload_n 0, 1) := by decide +kernel
theorem d_Law_law_292 : decode cd_Law_law 292 = .ok (.iload_n 3, 1) := by decide +kernel
theorem d_Law_law_293 : decode cd_Law_law 293 = .ok (.iconst 4, 1) := by decide +kernel
theorem d_Law_law_294 : decode cd_Law_law 294 = .ok (.iadd, 1) := by decide +kernel
theorem d_Law_law_295 : decode cd_Law_law 295 = .ok (.iaload, 1) := by decide +kernel
theorem d_Law_law_296 : decode cd_Law_law 296 = .ok (.aload_n 0, 1) := by decide +kernel
theorem d_Law_law_297 : decode cd_Law_law 297 = .ok (.iload_n 3, 1) := by decide +kernel
theorem d_Law_law_298 : decode cd_Law_law 298 = .ok (.iconst 5, 1) := by decide +kernel
theorem d_Law_law_299 : decode cd_Law_law 299 = .ok (.iadd, 1) := by decide +kernel
theorem d_Law_law_300 : decode cd_Law_law 300 = .ok (.iaload, 1) := by decide +kernel
theorem d_Law_law_301 : decode cd_Law_law 301 = .ok (.invokevirtual 46, 3) := by decide +kernel
theorem d_Law_law_304 : decode cd_Law_law 304 = .ok (.aload_n 2, 1) := by decide +kernel
theorem d_Law_law_305 : decode cd_Law_law 305 = .ok (.aload_n 0, 1) := by decide +kernel
theorem d_Law_law_306 : decode cd_Law_law 306 = .ok (.iload_n 3, 1) := by decide +kernel
theorem d_Law_law_307 : decode cd_Law_law 307 = .ok (.iconst 1, 1) := by decide +kernel
theorem d_Law_law_308 : decode cd_Law_law 308 = .ok (.iadd, 1) := by decide +kernel
theorem d_Law_law_309 : decode cd_Law_law 309 = .ok (.iaload, 1) := by decide +kernel
theorem d_Law_law_310 : decode cd_Law_law 310 = .ok (.aload_n 0, 1) := by decide +kernel
theorem d_Law_law_311 : decode cd_Law_law 311 = .ok (.iload_n 3, 1) := by decide +kernel
theorem d_Law_law_312 : decode cd_Law_law 312 = .ok (.iconst 2, 1) := by decide +kernel
theorem d_Law_law_313 : decode cd_Law_law 313 = .ok (.iadd, 1) := by decide +kernel
theorem d_Law_law_314 : decode cd_Law_law 314 = .ok (.iaload, 1) := by decide +kernel
theorem d_Law_law_315 : decode cd_Law_law 315 = .ok (.aload_n 0, 1) := by decide +kernel
theorem d_Law_law_316 : decode cd_Law_law 316 = .ok (.iload_n 3, 1) := by decide +kernel
theorem d_Law_law_317 : decode cd_Law_law 317 = .ok (.iconst 3, 1) := by decide +kernel
theorem d_Law_law_318 : decode cd_Law_law 318 = .ok (.iadd, 1) := by decide +kernel
theorem d_Law_law_319 : decode cd_Law_law 319 = .ok (.iaload, 1) := by decide +kernel
theorem d_Law_law_320 : decode cd_Law_law 320 = .ok (.aload_n 0, 1) := by decide +kernel
theorem d_Law_law_321 : decode cd_Law_law 321 = .ok (.iload_n 3, 1) := by decide +kernel
theorem d_Law_law_322 : decode cd_Law_law 322 = .ok (.iconst 4, 1) := by decide +kernel
theorem d_Law_law_323 : decode cd_Law_law 323 = .ok (.iadd, 1) := by decide +kernel
theorem d_Law_law_324 : decode cd_Law_law 324 = .ok (.iaload, 1) := by decide +kernel
theorem d_Law_law_325 : decode cd_Law_law 325 = .ok (.aload_n 0, 1) := by decide +kernel
theorem d_Law_law_326 : decode cd_Law_law 326 = .ok (.iload_n 3, 1) := by decide +kernel
theorem d_Law_law_327 : decode cd_Law_law 327 = .ok (.iconst 5, 1) := by decide +kernel
theorem d_Law_law_328 : decode cd_Law_law 328 = .ok (.iadd, 1) := by decide +kernel
theorem d_Law_law_329 : decode cd_Law_law 329 = .ok (.iaload, 1) := by decide +kernel
theorem d_Law_law_330 : decode cd_Law_law 330 = .ok (.invokevirtual 50, 3) := by decide +kernel
theorem d_Law_law_333 : decode cd_Law_law 333 = .ok (.if_icmp .eq 90, 3) := by decide +kernel
theorem d_Law_law_336 : decode cd_Law_law 336 = .ok (.iconst 0, 1) := by decide +kernel
theorem d_Law_law_337 : decode cd_Law_law 337 = .ok (.ireturn, 1) := by decide +kernel
theorem d_Law_law_338 : decode cd_Law_law 338 = .ok (.aload_n 1, 1) := by decide +kernel
theorem d_Law_law_339 : decode cd_Law_law 339 = .ok (.aload_n 0, 1) := by decide +kernel
theorem d_Law_law_340 : decode cd_Law_law 340 = .ok (.iload_n 3, 1) := by decide +kernel
theorem d_Law_law_341 : decode cd_Law_law 341 = .ok (.iconst 1, 1) := by decide +kernel
theorem d_Law_law_342 : decode cd_Law_law 342 = .ok (.iadd, 1) := by decide +kernel
theorem d_Law_law_343 : decode cd_Law_law 343 = .ok (.iaload, 1) := by decide +kernel
theorem d_Law_law_344 : decode cd_Law_law 344 = .ok (.invokevirtual 51, 3) := by decide +kernel
theorem d_Law_law_347 : decode cd_Law_law 347 = .ok (.aload_n 2, 1) := by decide +kernel
theorem d_Law_law_348 : decode cd_Law_law 348 = .ok (.aload_n 0, 1) := by decide +kernel
theorem d_Law_law_349 : decode cd_Law_law 349 = .ok (.iload_n 3, 1) := by decide +kernel
theorem d_Law_law_350 : decode cd_Law_law 350 = .ok (.iconst 1, 1) := by decide +kernel
theorem d_Law_law_351 : decode cd_Law_law 351 = .ok (.iadd, 1) := by decide +kernel
theorem d_Law_law_352 : decode cd_Law_law 352 = .ok (.iaload, 1) := by decide +kernel
theorem d_Law_law_353 : decode cd_Law_law 353 = .ok (.invokevirtual 54, 3) := by decide +kernel
theorem d_Law_law_356 : decode cd_Law_law 356 = .ok (.if_icmp .eq 67, 3) := by decide +kernel
theorem d_Law_law_359 : decode cd_Law_law 359 = .ok (.iconst 0, 1) := by decide +kernel
theorem d_Law_law_360 : decode cd_Law_law 360 = .ok (.ireturn, 1) := by decide +kernel
theorem d_Law_law_361 : decode cd_Law_law 361 = .ok (.aload_n 1, 1) := by decide +kernel
theorem d_Law_law_362 : decode cd_Law_law 362 = .ok (.invokevirtual 55, 3) := by decide +kernel
theorem d_Law_law_365 : decode cd_Law_law 365 = .ok (.aload_n 2, 1) := by decide +kernel
theorem d_Law_law_366 : decode cd_Law_law 366 = .ok (.invokevirtual 59, 3) := by decide +kernel
theorem d_Law_law_369 : decode cd_Law_law 369 = .ok (.if_icmp .eq 54, 3) := by decide +kernel
theorem d_Law_law_372 : decode cd_Law_law 372 = .ok (.iconst 0, 1) := by decide +kernel
theorem d_Law_law_373 : decode cd_Law_law 373 = .ok (.ireturn, 1) := by decide +kernel
theorem d_Law_law_374 : decode cd_Law_law 374 = .ok (.aload_n 1, 1) := by decide +kernel
theorem d_Law_law_375 : decode cd_Law_law 375 = .ok (.invokevirtual 60, 3) := by decide +kernel
theorem d_Law_law_378 : decode cd_Law_law 378 = .ok (.aload_n 2, 1) := by decide +kernel
theorem d_Law_law_379 : decode cd_Law_law 379 = .ok (.invokevirtual 63, 3) := by decide +kernel
theorem d_Law_law_382 : decode cd_Law_law 382 = .ok (.if_icmp .eq 41, 3) := by decide +kernel
theorem d_Law_law_385 : decode cd_Law_law 385 = .ok (.iconst 0, 1) := by decide +kernel
theorem d_Law_law_386 : decode cd_Law_law 386 = .ok (.ireturn, 1) := by decide +kernel
theorem d_Law_law_387 : decode cd_Law_law 387 = .ok (.aload_n 1, 1) := by decide +kernel
theorem d_Law_law_388 : decode cd_Law_law 388 = .ok (.invokevirtual 64, 3) := by decide +kernel
theorem d_Law_law_391 : decode cd_Law_law 391 = .ok (.aload_n 2, 1) := by decide +kernel
theorem d_Law_law_392 : decode cd_Law_law 392 = .ok (.invokevirtual 67, 3) := by decide +kernel
theorem d_Law_law_395 : decode cd_Law_law 395 = .ok (.if_icmp .eq 28, 3) := by decide +kernel
theorem d_Law_law_398 : decode cd_Law_law 398 = .ok (.iconst 0, 1) := by decide +kernel
theorem d_Law_law_399 : decode cd_Law_law 399 = .ok (.ireturn, 1) := by decide +kernel
theorem d_Law_law_400 : decode cd_Law_law 400 = .ok (.aload_n 1, 1) := by decide +kernel
theorem d_Law_law_401 : decode cd_Law_law 401 = .ok (.aload_n 0, 1) := by decide +kernel
theorem d_Law_law_402 : decode cd_Law_law 402 = .ok (.iload_n 3, 1) := by decide +kernel
theorem d_Law_law_403 : decode cd_Law_law 403 = .ok (.iconst 1, 1) := by decide +kernel
theorem d_Law_law_404 : decode cd_Law_law 404 = .ok (.iadd, 1) := by decide +kernel
theorem d_Law_law_405 : decode cd_Law_law 405 = .ok (.iaload, 1) := by decide +kernel
theorem d_Law_law_406 : decode cd_Law_law 406 = .ok (.invokevirtual 68, 3) := by decide +kernel
theorem d_Law_law_409 : decode cd_Law_law 409 = .ok (.aload_n 2, 1) := by decide +kernel
theorem d_Law_law_410 : decode cd_Law_law 410 = .ok (.aload_n 0, 1) := by decide +kernel
theorem d_Law_law_411 : decode cd_Law_law 411 = .ok (.iload_n 3, 1) := by decide +kernel
theorem d_Law_law_412 : decode cd_Law_law 412 = .ok (.iconst 1, 1) := by decide +kernel
theorem d_Law_law_413 : decode cd_Law_law 413 = .ok (.iadd, 1) := by decide +kernel
theorem d_Law_law_414 : decode cd_Law_law 414 = .ok (.iaload, 1) := by decide +kernel
theorem d_Law_law_415 : decode cd_Law_law 415 = .ok (.invokevirtual 71, 3) := by decide +kernel
theorem d_Law_law_418 : decode cd_Law_law 418 = .ok (.if_icmp .eq 5, 3) := by decide +kernel
theorem d_Law_law_421 : decode cd_Law_law 421 = .ok (.iconst 0, 1) := by decide +kernel
theorem d_Law_law_422 : decode cd_Law_law 422 = .ok (.ireturn, 1) := by decide +kernel
theorem d_Law_law_423 : decode cd_Law_law 423 = .ok (.iinc 3 6, 3) := by decide +kernel
theorem d_Law_law_426 : decode cd_Law_law 426 = .ok (.goto (-408), 3) := by decide +kernel
theorem d_Law_law_429 : decode cd_Law_law 429 = .ok (.iconst 1, 1) := by decide +kernel
theorem d_Law_law_430 : decode cd_Law_law 430 = .ok (.ireturn, 1) := by decide +kernel
