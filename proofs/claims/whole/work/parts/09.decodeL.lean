theorem dd_L_law_0 : decode mb_L_law 0 = .ok (.new 8, 3) := by decide +kernel
theorem dd_L_law_3 : decode mb_L_law 3 = .ok (.dup, 1) := by decide +kernel
theorem dd_L_law_4 : decode mb_L_law 4 = .ok (.invokespecial 55, 3) := by decide +kernel
theorem dd_L_law_7 : decode mb_L_law 7 = .ok (.astore_n 1, 1) := by decide +kernel
theorem dd_L_law_8 : decode mb_L_law 8 = .ok (.new 56, 3) := by decide +kernel
theorem dd_L_law_11 : decode mb_L_law 11 = .ok (.dup, 1) := by decide +kernel
theorem dd_L_law_12 : decode mb_L_law 12 = .ok (.invokespecial 58, 3) := by decide +kernel
theorem dd_L_law_15 : decode mb_L_law 15 = .ok (.astore_n 2, 1) := by decide +kernel
theorem dd_L_law_16 : decode mb_L_law 16 = .ok (.iconst 1, 1) := by decide +kernel
theorem dd_L_law_17 : decode mb_L_law 17 = .ok (.newarray .long, 2) := by decide +kernel
theorem dd_L_law_19 : decode mb_L_law 19 = .ok (.astore_n 3, 1) := by decide +kernel
theorem dd_L_law_20 : decode mb_L_law 20 = .ok (.iconst 0, 1) := by decide +kernel
theorem dd_L_law_21 : decode mb_L_law 21 = .ok (.istore 4, 2) := by decide +kernel
theorem dd_L_law_23 : decode mb_L_law 23 = .ok (.iload 4, 2) := by decide +kernel
theorem dd_L_law_25 : decode mb_L_law 25 = .ok (.aload_n 0, 1) := by decide +kernel
theorem dd_L_law_26 : decode mb_L_law 26 = .ok (.arraylength, 1) := by decide +kernel
theorem dd_L_law_27 : decode mb_L_law 27 = .ok (.iconst 5, 1) := by decide +kernel
theorem dd_L_law_28 : decode mb_L_law 28 = .ok (.isub, 1) := by decide +kernel
theorem dd_L_law_29 : decode mb_L_law 29 = .ok (.if_icmp .gt 779, 3) := by decide +kernel
theorem dd_L_law_32 : decode mb_L_law 32 = .ok (.aload_n 0, 1) := by decide +kernel
theorem dd_L_law_33 : decode mb_L_law 33 = .ok (.iload 4, 2) := by decide +kernel
theorem dd_L_law_35 : decode mb_L_law 35 = .ok (.iaload, 1) := by decide +kernel
theorem dd_L_law_36 : decode mb_L_law 36 = .ok (.bipush 15, 2) := by decide +kernel
theorem dd_L_law_38 : decode mb_L_law 38 = .ok (.iand, 1) := by decide +kernel
theorem dd_L_law_39 : decode mb_L_law 39 = .ok (.tableswitch 763 0 11 #[61, 193, 249, 293, 349, 362, 418, 473, 528, 591, 627, 727], 61) := by decide +kernel
theorem dd_L_law_100 : decode mb_L_law 100 = .ok (.aload_n 1, 1) := by decide +kernel
theorem dd_L_law_101 : decode mb_L_law 101 = .ok (.aload_n 0, 1) := by decide +kernel
theorem dd_L_law_102 : decode mb_L_law 102 = .ok (.iload 4, 2) := by decide +kernel
theorem dd_L_law_104 : decode mb_L_law 104 = .ok (.iconst 1, 1) := by decide +kernel
theorem dd_L_law_105 : decode mb_L_law 105 = .ok (.iadd, 1) := by decide +kernel
theorem dd_L_law_106 : decode mb_L_law 106 = .ok (.iaload, 1) := by decide +kernel
theorem dd_L_law_107 : decode mb_L_law 107 = .ok (.i2l, 1) := by decide +kernel
theorem dd_L_law_108 : decode mb_L_law 108 = .ok (.bipush 32, 2) := by decide +kernel
theorem dd_L_law_110 : decode mb_L_law 110 = .ok (.lshl, 1) := by decide +kernel
theorem dd_L_law_111 : decode mb_L_law 111 = .ok (.aload_n 0, 1) := by decide +kernel
theorem dd_L_law_112 : decode mb_L_law 112 = .ok (.iload 4, 2) := by decide +kernel
theorem dd_L_law_114 : decode mb_L_law 114 = .ok (.iconst 2, 1) := by decide +kernel
theorem dd_L_law_115 : decode mb_L_law 115 = .ok (.iadd, 1) := by decide +kernel
theorem dd_L_law_116 : decode mb_L_law 116 = .ok (.iaload, 1) := by decide +kernel
theorem dd_L_law_117 : decode mb_L_law 117 = .ok (.i2l, 1) := by decide +kernel
theorem dd_L_law_118 : decode mb_L_law 118 = .ok (.ldc2_w 59, 3) := by decide +kernel
theorem dd_L_law_121 : decode mb_L_law 121 = .ok (.land, 1) := by decide +kernel
theorem dd_L_law_122 : decode mb_L_law 122 = .ok (.lor, 1) := by decide +kernel
theorem dd_L_law_123 : decode mb_L_law 123 = .ok (.aload_n 0, 1) := by decide +kernel
theorem dd_L_law_124 : decode mb_L_law 124 = .ok (.iload 4, 2) := by decide +kernel
theorem dd_L_law_126 : decode mb_L_law 126 = .ok (.iconst 3, 1) := by decide +kernel
theorem dd_L_law_127 : decode mb_L_law 127 = .ok (.iadd, 1) := by decide +kernel
theorem dd_L_law_128 : decode mb_L_law 128 = .ok (.iaload, 1) := by decide +kernel
theorem dd_L_law_129 : decode mb_L_law 129 = .ok (.i2l, 1) := by decide +kernel
theorem dd_L_law_130 : decode mb_L_law 130 = .ok (.bipush 32, 2) := by decide +kernel
theorem dd_L_law_132 : decode mb_L_law 132 = .ok (.lshl, 1) := by decide +kernel
theorem dd_L_law_133 : decode mb_L_law 133 = .ok (.aload_n 0, 1) := by decide +kernel
theorem dd_L_law_134 : decode mb_L_law 134 = .ok (.iload 4, 2) := by decide +kernel
theorem dd_L_law_136 : decode mb_L_law 136 = .ok (.iconst 4, 1) := by decide +kernel
theorem dd_L_law_137 : decode mb_L_law 137 = .ok (.iadd, 1) := by decide +kernel
theorem dd_L_law_138 : decode mb_L_law 138 = .ok (.iaload, 1) := by decide +kernel
theorem dd_L_law_139 : decode mb_L_law 139 = .ok (.i2l, 1) := by decide +kernel
theorem dd_L_law_140 : decode mb_L_law 140 = .ok (.ldc2_w 59, 3) := by decide +kernel
theorem dd_L_law_143 : decode mb_L_law 143 = .ok (.land, 1) := by decide +kernel
theorem dd_L_law_144 : decode mb_L_law 144 = .ok (.lor, 1) := by decide +kernel
theorem dd_L_law_145 : decode mb_L_law 145 = .ok (.aload_n 3, 1) := by decide +kernel
theorem dd_L_law_146 : decode mb_L_law 146 = .ok (.invokestatic 61, 3) := by decide +kernel
theorem dd_L_law_149 : decode mb_L_law 149 = .ok (.istore 5, 2) := by decide +kernel
theorem dd_L_law_151 : decode mb_L_law 151 = .ok (.aload_n 2, 1) := by decide +kernel
theorem dd_L_law_152 : decode mb_L_law 152 = .ok (.aload_n 0, 1) := by decide +kernel
theorem dd_L_law_153 : decode mb_L_law 153 = .ok (.iload 4, 2) := by decide +kernel
theorem dd_L_law_155 : decode mb_L_law 155 = .ok (.iconst 1, 1) := by decide +kernel
theorem dd_L_law_156 : decode mb_L_law 156 = .ok (.iadd, 1) := by decide +kernel
theorem dd_L_law_157 : decode mb_L_law 157 = .ok (.iaload, 1) := by decide +kernel
theorem dd_L_law_158 : decode mb_L_law 158 = .ok (.i2l, 1) := by decide +kernel
theorem dd_L_law_159 : decode mb_L_law 159 = .ok (.bipush 32, 2) := by decide +kernel
theorem dd_L_law_161 : decode mb_L_law 161 = .ok (.lshl, 1) := by decide +kernel
theorem dd_L_law_162 : decode mb_L_law 162 = .ok (.aload_n 0, 1) := by decide +kernel
theorem dd_L_law_163 : decode mb_L_law 163 = .ok (.iload 4, 2) := by decide +kernel
theorem dd_L_law_165 : decode mb_L_law 165 = .ok (.iconst 2, 1) := by decide +kernel
theorem dd_L_law_166 : decode mb_L_law 166 = .ok (.iadd, 1) := by decide +kernel
theorem dd_L_law_167 : decode mb_L_law 167 = .ok (.iaload, 1) := by decide +kernel
theorem dd_L_law_168 : decode mb_L_law 168 = .ok (.i2l, 1) := by decide +kernel
theorem dd_L_law_169 : decode mb_L_law 169 = .ok (.ldc2_w 59, 3) := by decide +kernel
theorem dd_L_law_172 : decode mb_L_law 172 = .ok (.land, 1) := by decide +kernel
theorem dd_L_law_173 : decode mb_L_law 173 = .ok (.lor, 1) := by decide +kernel
theorem dd_L_law_174 : decode mb_L_law 174 = .ok (.aload_n 0, 1) := by decide +kernel
theorem dd_L_law_175 : decode mb_L_law 175 = .ok (.iload 4, 2) := by decide +kernel
theorem dd_L_law_177 : decode mb_L_law 177 = .ok (.iconst 3, 1) := by decide +kernel
theorem dd_L_law_178 : decode mb_L_law 178 = .ok (.iadd, 1) := by decide +kernel
theorem dd_L_law_179 : decode mb_L_law 179 = .ok (.iaload, 1) := by decide +kernel
theorem dd_L_law_180 : decode mb_L_law 180 = .ok (.i2l, 1) := by decide +kernel
theorem dd_L_law_181 : decode mb_L_law 181 = .ok (.bipush 32, 2) := by decide +kernel
theorem dd_L_law_183 : decode mb_L_law 183 = .ok (.lshl, 1) := by decide +kernel
theorem dd_L_law_184 : decode mb_L_law 184 = .ok (.aload_n 0, 1) := by decide +kernel
theorem dd_L_law_185 : decode mb_L_law 185 = .ok (.iload 4, 2) := by decide +kernel
theorem dd_L_law_187 : decode mb_L_law 187 = .ok (.iconst 4, 1) := by decide +kernel
theorem dd_L_law_188 : decode mb_L_law 188 = .ok (.iadd, 1) := by decide +kernel
theorem dd_L_law_189 : decode mb_L_law 189 = .ok (.iaload, 1) := by decide +kernel
theorem dd_L_law_190 : decode mb_L_law 190 = .ok (.i2l, 1) := by decide +kernel
theorem dd_L_law_191 : decode mb_L_law 191 = .ok (.ldc2_w 59, 3) := by decide +kernel
theorem dd_L_law_194 : decode mb_L_law 194 = .ok (.land, 1) := by decide +kernel
theorem dd_L_law_195 : decode mb_L_law 195 = .ok (.lor, 1) := by decide +kernel
theorem dd_L_law_196 : decode mb_L_law 196 = .ok (.invokevirtual 66, 3) := by decide +kernel
theorem dd_L_law_199 : decode mb_L_law 199 = .ok (.istore 6, 2) := by decide +kernel
theorem dd_L_law_201 : decode mb_L_law 201 = .ok (.aload_n 2, 1) := by decide +kernel
theorem dd_L_law_202 : decode mb_L_law 202 = .ok (.invokevirtual 67, 3) := by decide +kernel
theorem dd_L_law_205 : decode mb_L_law 205 = .ok (.iload 5, 2) := by decide +kernel
theorem dd_L_law_207 : decode mb_L_law 207 = .ok (.if_icmp .eq 5, 3) := by decide +kernel
theorem dd_L_law_210 : decode mb_L_law 210 = .ok (.iconst 0, 1) := by decide +kernel
theorem dd_L_law_211 : decode mb_L_law 211 = .ok (.ireturn, 1) := by decide +kernel
theorem dd_L_law_212 : decode mb_L_law 212 = .ok (.iload 5, 2) := by decide +kernel
theorem dd_L_law_214 : decode mb_L_law 214 = .ok (.ifCond .ne 15, 3) := by decide +kernel
theorem dd_L_law_217 : decode mb_L_law 217 = .ok (.aload_n 3, 1) := by decide +kernel
theorem dd_L_law_218 : decode mb_L_law 218 = .ok (.iconst 0, 1) := by decide +kernel
theorem dd_L_law_219 : decode mb_L_law 219 = .ok (.laload, 1) := by decide +kernel
theorem dd_L_law_220 : decode mb_L_law 220 = .ok (.iload 6, 2) := by decide +kernel
theorem dd_L_law_222 : decode mb_L_law 222 = .ok (.i2l, 1) := by decide +kernel
theorem dd_L_law_223 : decode mb_L_law 223 = .ok (.lcmp, 1) := by decide +kernel
theorem dd_L_law_224 : decode mb_L_law 224 = .ok (.ifCond .eq 5, 3) := by decide +kernel
theorem dd_L_law_227 : decode mb_L_law 227 = .ok (.iconst 0, 1) := by decide +kernel
theorem dd_L_law_228 : decode mb_L_law 228 = .ok (.ireturn, 1) := by decide +kernel
theorem dd_L_law_229 : decode mb_L_law 229 = .ok (.goto 573, 3) := by decide +kernel
theorem dd_L_law_232 : decode mb_L_law 232 = .ok (.aload_n 1, 1) := by decide +kernel
theorem dd_L_law_233 : decode mb_L_law 233 = .ok (.aload_n 0, 1) := by decide +kernel
theorem dd_L_law_234 : decode mb_L_law 234 = .ok (.iload 4, 2) := by decide +kernel
theorem dd_L_law_236 : decode mb_L_law 236 = .ok (.iconst 1, 1) := by decide +kernel
theorem dd_L_law_237 : decode mb_L_law 237 = .ok (.iadd, 1) := by decide +kernel
theorem dd_L_law_238 : decode mb_L_law 238 = .ok (.iaload, 1) := by decide +kernel
theorem dd_L_law_239 : decode mb_L_law 239 = .ok (.aload_n 3, 1) := by decide +kernel
theorem dd_L_law_240 : decode mb_L_law 240 = .ok (.invokestatic 70, 3) := by decide +kernel
theorem dd_L_law_243 : decode mb_L_law 243 = .ok (.istore 5, 2) := by decide +kernel
theorem dd_L_law_245 : decode mb_L_law 245 = .ok (.aload_n 2, 1) := by decide +kernel
theorem dd_L_law_246 : decode mb_L_law 246 = .ok (.aload_n 0, 1) := by decide +kernel
theorem dd_L_law_247 : decode mb_L_law 247 = .ok (.iload 4, 2) := by decide +kernel
theorem dd_L_law_249 : decode mb_L_law 249 = .ok (.iconst 1, 1) := by decide +kernel
theorem dd_L_law_250 : decode mb_L_law 250 = .ok (.iadd, 1) := by decide +kernel
theorem dd_L_law_251 : decode mb_L_law 251 = .ok (.iaload, 1) := by decide +kernel
theorem dd_L_law_252 : decode mb_L_law 252 = .ok (.invokevirtual 73, 3) := by decide +kernel
theorem dd_L_law_255 : decode mb_L_law 255 = .ok (.istore 6, 2) := by decide +kernel
theorem dd_L_law_257 : decode mb_L_law 257 = .ok (.aload_n 2, 1) := by decide +kernel
theorem dd_L_law_258 : decode mb_L_law 258 = .ok (.invokevirtual 67, 3) := by decide +kernel
theorem dd_L_law_261 : decode mb_L_law 261 = .ok (.iload 5, 2) := by decide +kernel
theorem dd_L_law_263 : decode mb_L_law 263 = .ok (.if_icmp .eq 5, 3) := by decide +kernel
theorem dd_L_law_266 : decode mb_L_law 266 = .ok (.iconst 0, 1) := by decide +kernel
theorem dd_L_law_267 : decode mb_L_law 267 = .ok (.ireturn, 1) := by decide +kernel
theorem dd_L_law_268 : decode mb_L_law 268 = .ok (.iload 5, 2) := by decide +kernel
theorem dd_L_law_270 : decode mb_L_law 270 = .ok (.ifCond .ne 15, 3) := by decide +kernel
theorem dd_L_law_273 : decode mb_L_law 273 = .ok (.aload_n 3, 1) := by decide +kernel
theorem dd_L_law_274 : decode mb_L_law 274 = .ok (.iconst 0, 1) := by decide +kernel
theorem dd_L_law_275 : decode mb_L_law 275 = .ok (.laload, 1) := by decide +kernel
theorem dd_L_law_276 : decode mb_L_law 276 = .ok (.iload 6, 2) := by decide +kernel
theorem dd_L_law_278 : decode mb_L_law 278 = .ok (.i2l, 1) := by decide +kernel
theorem dd_L_law_279 : decode mb_L_law 279 = .ok (.lcmp, 1) := by decide +kernel
theorem dd_L_law_280 : decode mb_L_law 280 = .ok (.ifCond .eq 5, 3) := by decide +kernel
theorem dd_L_law_283 : decode mb_L_law 283 = .ok (.iconst 0, 1) := by decide +kernel
theorem dd_L_law_284 : decode mb_L_law 284 = .ok (.ireturn, 1) := by decide +kernel
theorem dd_L_law_285 : decode mb_L_law 285 = .ok (.goto 517, 3) := by decide +kernel
theorem dd_L_law_288 : decode mb_L_law 288 = .ok (.aload_n 1, 1) := by decide +kernel
theorem dd_L_law_289 : decode mb_L_law 289 = .ok (.aload_n 3, 1) := by decide +kernel
theorem dd_L_law_290 : decode mb_L_law 290 = .ok (.invokestatic 74, 3) := by decide +kernel
theorem dd_L_law_293 : decode mb_L_law 293 = .ok (.istore 5, 2) := by decide +kernel
theorem dd_L_law_295 : decode mb_L_law 295 = .ok (.aload_n 2, 1) := by decide +kernel
theorem dd_L_law_296 : decode mb_L_law 296 = .ok (.invokevirtual 77, 3) := by decide +kernel
theorem dd_L_law_299 : decode mb_L_law 299 = .ok (.istore 6, 2) := by decide +kernel
theorem dd_L_law_301 : decode mb_L_law 301 = .ok (.aload_n 2, 1) := by decide +kernel
theorem dd_L_law_302 : decode mb_L_law 302 = .ok (.invokevirtual 67, 3) := by decide +kernel
theorem dd_L_law_305 : decode mb_L_law 305 = .ok (.iload 5, 2) := by decide +kernel
theorem dd_L_law_307 : decode mb_L_law 307 = .ok (.if_icmp .eq 5, 3) := by decide +kernel
theorem dd_L_law_310 : decode mb_L_law 310 = .ok (.iconst 0, 1) := by decide +kernel
theorem dd_L_law_311 : decode mb_L_law 311 = .ok (.ireturn, 1) := by decide +kernel
theorem dd_L_law_312 : decode mb_L_law 312 = .ok (.iload 5, 2) := by decide +kernel
theorem dd_L_law_314 : decode mb_L_law 314 = .ok (.ifCond .ne 15, 3) := by decide +kernel
theorem dd_L_law_317 : decode mb_L_law 317 = .ok (.aload_n 3, 1) := by decide +kernel
theorem dd_L_law_318 : decode mb_L_law 318 = .ok (.iconst 0, 1) := by decide +kernel
theorem dd_L_law_319 : decode mb_L_law 319 = .ok (.laload, 1) := by decide +kernel
theorem dd_L_law_320 : decode mb_L_law 320 = .ok (.iload 6, 2) := by decide +kernel
theorem dd_L_law_322 : decode mb_L_law 322 = .ok (.i2l, 1) := by decide +kernel
theorem dd_L_law_323 : decode mb_L_law 323 = .ok (.lcmp, 1) := by decide +kernel
theorem dd_L_law_324 : decode mb_L_law 324 = .ok (.ifCond .eq 5, 3) := by decide +kernel
theorem dd_L_law_327 : decode mb_L_law 327 = .ok (.iconst 0, 1) := by decide +kernel
theorem dd_L_law_328 : decode mb_L_law 328 = .ok (.ireturn, 1) := by decide +kernel
theorem dd_L_law_329 : decode mb_L_law 329 = .ok (.goto 473, 3) := by decide +kernel
theorem dd_L_law_332 : decode mb_L_law 332 = .ok (.aload_n 1, 1) := by decide +kernel
theorem dd_L_law_333 : decode mb_L_law 333 = .ok (.aload_n 0, 1) := by decide +kernel
theorem dd_L_law_334 : decode mb_L_law 334 = .ok (.iload 4, 2) := by decide +kernel
theorem dd_L_law_336 : decode mb_L_law 336 = .ok (.iconst 1, 1) := by decide +kernel
theorem dd_L_law_337 : decode mb_L_law 337 = .ok (.iadd, 1) := by decide +kernel
theorem dd_L_law_338 : decode mb_L_law 338 = .ok (.iaload, 1) := by decide +kernel
theorem dd_L_law_339 : decode mb_L_law 339 = .ok (.aload_n 3, 1) := by decide +kernel
theorem dd_L_law_340 : decode mb_L_law 340 = .ok (.invokestatic 78, 3) := by decide +kernel
theorem dd_L_law_343 : decode mb_L_law 343 = .ok (.istore 5, 2) := by decide +kernel
theorem dd_L_law_345 : decode mb_L_law 345 = .ok (.aload_n 2, 1) := by decide +kernel
theorem dd_L_law_346 : decode mb_L_law 346 = .ok (.aload_n 0, 1) := by decide +kernel
theorem dd_L_law_347 : decode mb_L_law 347 = .ok (.iload 4, 2) := by decide +kernel
theorem dd_L_law_349 : decode mb_L_law 349 = .ok (.iconst 1, 1) := by decide +kernel
theorem dd_L_law_350 : decode mb_L_law 350 = .ok (.iadd, 1) := by decide +kernel
theorem dd_L_law_351 : decode mb_L_law 351 = .ok (.iaload, 1) := by decide +kernel
theorem dd_L_law_352 : decode mb_L_law 352 = .ok (.invokevirtual 80, 3) := by decide +kernel
theorem dd_L_law_355 : decode mb_L_law 355 = .ok (.istore 6, 2) := by decide +kernel
theorem dd_L_law_357 : decode mb_L_law 357 = .ok (.aload_n 2, 1) := by decide +kernel
theorem dd_L_law_358 : decode mb_L_law 358 = .ok (.invokevirtual 67, 3) := by decide +kernel
theorem dd_L_law_361 : decode mb_L_law 361 = .ok (.iload 5, 2) := by decide +kernel
theorem dd_L_law_363 : decode mb_L_law 363 = .ok (.if_icmp .eq 5, 3) := by decide +kernel
theorem dd_L_law_366 : decode mb_L_law 366 = .ok (.iconst 0, 1) := by decide +kernel
theorem dd_L_law_367 : decode mb_L_law 367 = .ok (.ireturn, 1) := by decide +kernel
theorem dd_L_law_368 : decode mb_L_law 368 = .ok (.iload 5, 2) := by decide +kernel
theorem dd_L_law_370 : decode mb_L_law 370 = .ok (.ifCond .ne 15, 3) := by decide +kernel
theorem dd_L_law_373 : decode mb_L_law 373 = .ok (.aload_n 3, 1) := by decide +kernel
theorem dd_L_law_374 : decode mb_L_law 374 = .ok (.iconst 0, 1) := by decide +kernel
theorem dd_L_law_375 : decode mb_L_law 375 = .ok (.laload, 1) := by decide +kernel
theorem dd_L_law_376 : decode mb_L_law 376 = .ok (.iload 6, 2) := by decide +kernel
theorem dd_L_law_378 : decode mb_L_law 378 = .ok (.i2l, 1) := by decide +kernel
theorem dd_L_law_379 : decode mb_L_law 379 = .ok (.lcmp, 1) := by decide +kernel
theorem dd_L_law_380 : decode mb_L_law 380 = .ok (.ifCond .eq 5, 3) := by decide +kernel
theorem dd_L_law_383 : decode mb_L_law 383 = .ok (.iconst 0, 1) := by decide +kernel
theorem dd_L_law_384 : decode mb_L_law 384 = .ok (.ireturn, 1) := by decide +kernel
theorem dd_L_law_385 : decode mb_L_law 385 = .ok (.goto 417, 3) := by decide +kernel
theorem dd_L_law_388 : decode mb_L_law 388 = .ok (.aload_n 1, 1) := by decide +kernel
theorem dd_L_law_389 : decode mb_L_law 389 = .ok (.invokevirtual 81, 3) := by decide +kernel
theorem dd_L_law_392 : decode mb_L_law 392 = .ok (.aload_n 2, 1) := by decide +kernel
theorem dd_L_law_393 : decode mb_L_law 393 = .ok (.invokevirtual 84, 3) := by decide +kernel
theorem dd_L_law_396 : decode mb_L_law 396 = .ok (.if_icmp .eq 406, 3) := by decide +kernel
theorem dd_L_law_399 : decode mb_L_law 399 = .ok (.iconst 0, 1) := by decide +kernel
theorem dd_L_law_400 : decode mb_L_law 400 = .ok (.ireturn, 1) := by decide +kernel
theorem dd_L_law_401 : decode mb_L_law 401 = .ok (.aload_n 1, 1) := by decide +kernel
theorem dd_L_law_402 : decode mb_L_law 402 = .ok (.aload_n 0, 1) := by decide +kernel
theorem dd_L_law_403 : decode mb_L_law 403 = .ok (.iload 4, 2) := by decide +kernel
theorem dd_L_law_405 : decode mb_L_law 405 = .ok (.iconst 1, 1) := by decide +kernel
theorem dd_L_law_406 : decode mb_L_law 406 = .ok (.iadd, 1) := by decide +kernel
theorem dd_L_law_407 : decode mb_L_law 407 = .ok (.iaload, 1) := by decide +kernel
theorem dd_L_law_408 : decode mb_L_law 408 = .ok (.aload_n 3, 1) := by decide +kernel
theorem dd_L_law_409 : decode mb_L_law 409 = .ok (.invokestatic 85, 3) := by decide +kernel
theorem dd_L_law_412 : decode mb_L_law 412 = .ok (.istore 5, 2) := by decide +kernel
theorem dd_L_law_414 : decode mb_L_law 414 = .ok (.aload_n 2, 1) := by decide +kernel
theorem dd_L_law_415 : decode mb_L_law 415 = .ok (.aload_n 0, 1) := by decide +kernel
theorem dd_L_law_416 : decode mb_L_law 416 = .ok (.iload 4, 2) := by decide +kernel
theorem dd_L_law_418 : decode mb_L_law 418 = .ok (.iconst 1, 1) := by decide +kernel
theorem dd_L_law_419 : decode mb_L_law 419 = .ok (.iadd, 1) := by decide +kernel
theorem dd_L_law_420 : decode mb_L_law 420 = .ok (.iaload, 1) := by decide +kernel
theorem dd_L_law_421 : decode mb_L_law 421 = .ok (.invokevirtual 87, 3) := by decide +kernel
theorem dd_L_law_424 : decode mb_L_law 424 = .ok (.istore 6, 2) := by decide +kernel
theorem dd_L_law_426 : decode mb_L_law 426 = .ok (.aload_n 2, 1) := by decide +kernel
theorem dd_L_law_427 : decode mb_L_law 427 = .ok (.invokevirtual 67, 3) := by decide +kernel
theorem dd_L_law_430 : decode mb_L_law 430 = .ok (.iload 5, 2) := by decide +kernel
theorem dd_L_law_432 : decode mb_L_law 432 = .ok (.if_icmp .eq 5, 3) := by decide +kernel
theorem dd_L_law_435 : decode mb_L_law 435 = .ok (.iconst 0, 1) := by decide +kernel
theorem dd_L_law_436 : decode mb_L_law 436 = .ok (.ireturn, 1) := by decide +kernel
theorem dd_L_law_437 : decode mb_L_law 437 = .ok (.iload 5, 2) := by decide +kernel
theorem dd_L_law_439 : decode mb_L_law 439 = .ok (.ifCond .ne 15, 3) := by decide +kernel
theorem dd_L_law_442 : decode mb_L_law 442 = .ok (.aload_n 3, 1) := by decide +kernel
theorem dd_L_law_443 : decode mb_L_law 443 = .ok (.iconst 0, 1) := by decide +kernel
theorem dd_L_law_444 : decode mb_L_law 444 = .ok (.laload, 1) := by decide +kernel
theorem dd_L_law_445 : decode mb_L_law 445 = .ok (.iload 6, 2) := by decide +kernel
theorem dd_L_law_447 : decode mb_L_law 447 = .ok (.i2l, 1) := by decide +kernel
theorem dd_L_law_448 : decode mb_L_law 448 = .ok (.lcmp, 1) := by decide +kernel
theorem dd_L_law_449 : decode mb_L_law 449 = .ok (.ifCond .eq 5, 3) := by decide +kernel
theorem dd_L_law_452 : decode mb_L_law 452 = .ok (.iconst 0, 1) := by decide +kernel
theorem dd_L_law_453 : decode mb_L_law 453 = .ok (.ireturn, 1) := by decide +kernel
theorem dd_L_law_454 : decode mb_L_law 454 = .ok (.goto 348, 3) := by decide +kernel
theorem dd_L_law_457 : decode mb_L_law 457 = .ok (.aload_n 1, 1) := by decide +kernel
theorem dd_L_law_458 : decode mb_L_law 458 = .ok (.aload_n 0, 1) := by decide +kernel
theorem dd_L_law_459 : decode mb_L_law 459 = .ok (.iload 4, 2) := by decide +kernel
theorem dd_L_law_461 : decode mb_L_law 461 = .ok (.iconst 1, 1) := by decide +kernel
theorem dd_L_law_462 : decode mb_L_law 462 = .ok (.iadd, 1) := by decide +kernel
theorem dd_L_law_463 : decode mb_L_law 463 = .ok (.iaload, 1) := by decide +kernel
theorem dd_L_law_464 : decode mb_L_law 464 = .ok (.aload_n 3, 1) := by decide +kernel
theorem dd_L_law_465 : decode mb_L_law 465 = .ok (.invokestatic 88, 3) := by decide +kernel
theorem dd_L_law_468 : decode mb_L_law 468 = .ok (.istore 5, 2) := by decide +kernel
theorem dd_L_law_470 : decode mb_L_law 470 = .ok (.aload_n 2, 1) := by decide +kernel
theorem dd_L_law_471 : decode mb_L_law 471 = .ok (.aload_n 0, 1) := by decide +kernel
theorem dd_L_law_472 : decode mb_L_law 472 = .ok (.iload 4, 2) := by decide +kernel
theorem dd_L_law_474 : decode mb_L_law 474 = .ok (.iconst 1, 1) := by decide +kernel
theorem dd_L_law_475 : decode mb_L_law 475 = .ok (.iadd, 1) := by decide +kernel
theorem dd_L_law_476 : decode mb_L_law 476 = .ok (.iaload, 1) := by decide +kernel
theorem dd_L_law_477 : decode mb_L_law 477 = .ok (.invokevirtual 90, 3) := by decide +kernel
theorem dd_L_law_480 : decode mb_L_law 480 = .ok (.lstore 6, 2) := by decide +kernel
theorem dd_L_law_482 : decode mb_L_law 482 = .ok (.aload_n 2, 1) := by decide +kernel
theorem dd_L_law_483 : decode mb_L_law 483 = .ok (.invokevirtual 67, 3) := by decide +kernel
theorem dd_L_law_486 : decode mb_L_law 486 = .ok (.iload 5, 2) := by decide +kernel
theorem dd_L_law_488 : decode mb_L_law 488 = .ok (.if_icmp .eq 5, 3) := by decide +kernel
theorem dd_L_law_491 : decode mb_L_law 491 = .ok (.iconst 0, 1) := by decide +kernel
theorem dd_L_law_492 : decode mb_L_law 492 = .ok (.ireturn, 1) := by decide +kernel
theorem dd_L_law_493 : decode mb_L_law 493 = .ok (.iload 5, 2) := by decide +kernel
theorem dd_L_law_495 : decode mb_L_law 495 = .ok (.ifCond .ne 14, 3) := by decide +kernel
theorem dd_L_law_498 : decode mb_L_law 498 = .ok (.aload_n 3, 1) := by decide +kernel
theorem dd_L_law_499 : decode mb_L_law 499 = .ok (.iconst 0, 1) := by decide +kernel
theorem dd_L_law_500 : decode mb_L_law 500 = .ok (.laload, 1) := by decide +kernel
theorem dd_L_law_501 : decode mb_L_law 501 = .ok (.lload 6, 2) := by decide +kernel
theorem dd_L_law_503 : decode mb_L_law 503 = .ok (.lcmp, 1) := by decide +kernel
theorem dd_L_law_504 : decode mb_L_law 504 = .ok (.ifCond .eq 5, 3) := by decide +kernel
theorem dd_L_law_507 : decode mb_L_law 507 = .ok (.iconst 0, 1) := by decide +kernel
theorem dd_L_law_508 : decode mb_L_law 508 = .ok (.ireturn, 1) := by decide +kernel
theorem dd_L_law_509 : decode mb_L_law 509 = .ok (.goto 293, 3) := by decide +kernel
theorem dd_L_law_512 : decode mb_L_law 512 = .ok (.aload_n 1, 1) := by decide +kernel
theorem dd_L_law_513 : decode mb_L_law 513 = .ok (.aload_n 0, 1) := by decide +kernel
theorem dd_L_law_514 : decode mb_L_law 514 = .ok (.iload 4, 2) := by decide +kernel
theorem dd_L_law_516 : decode mb_L_law 516 = .ok (.iconst 1, 1) := by decide +kernel
theorem dd_L_law_517 : decode mb_L_law 517 = .ok (.iadd, 1) := by decide +kernel
theorem dd_L_law_518 : decode mb_L_law 518 = .ok (.iaload, 1) := by decide +kernel
theorem dd_L_law_519 : decode mb_L_law 519 = .ok (.aload_n 3, 1) := by decide +kernel
theorem dd_L_law_520 : decode mb_L_law 520 = .ok (.invokestatic 91, 3) := by decide +kernel
theorem dd_L_law_523 : decode mb_L_law 523 = .ok (.istore 5, 2) := by decide +kernel
theorem dd_L_law_525 : decode mb_L_law 525 = .ok (.aload_n 2, 1) := by decide +kernel
theorem dd_L_law_526 : decode mb_L_law 526 = .ok (.aload_n 0, 1) := by decide +kernel
theorem dd_L_law_527 : decode mb_L_law 527 = .ok (.iload 4, 2) := by decide +kernel
theorem dd_L_law_529 : decode mb_L_law 529 = .ok (.iconst 1, 1) := by decide +kernel
theorem dd_L_law_530 : decode mb_L_law 530 = .ok (.iadd, 1) := by decide +kernel
theorem dd_L_law_531 : decode mb_L_law 531 = .ok (.iaload, 1) := by decide +kernel
theorem dd_L_law_532 : decode mb_L_law 532 = .ok (.invokevirtual 93, 3) := by decide +kernel
theorem dd_L_law_535 : decode mb_L_law 535 = .ok (.lstore 6, 2) := by decide +kernel
theorem dd_L_law_537 : decode mb_L_law 537 = .ok (.aload_n 2, 1) := by decide +kernel
theorem dd_L_law_538 : decode mb_L_law 538 = .ok (.invokevirtual 67, 3) := by decide +kernel
theorem dd_L_law_541 : decode mb_L_law 541 = .ok (.iload 5, 2) := by decide +kernel
theorem dd_L_law_543 : decode mb_L_law 543 = .ok (.if_icmp .eq 5, 3) := by decide +kernel
theorem dd_L_law_546 : decode mb_L_law 546 = .ok (.iconst 0, 1) := by decide +kernel
theorem dd_L_law_547 : decode mb_L_law 547 = .ok (.ireturn, 1) := by decide +kernel
theorem dd_L_law_548 : decode mb_L_law 548 = .ok (.iload 5, 2) := by decide +kernel
theorem dd_L_law_550 : decode mb_L_law 550 = .ok (.ifCond .ne 14, 3) := by decide +kernel
theorem dd_L_law_553 : decode mb_L_law 553 = .ok (.aload_n 3, 1) := by decide +kernel
theorem dd_L_law_554 : decode mb_L_law 554 = .ok (.iconst 0, 1) := by decide +kernel
theorem dd_L_law_555 : decode mb_L_law 555 = .ok (.laload, 1) := by decide +kernel
theorem dd_L_law_556 : decode mb_L_law 556 = .ok (.lload 6, 2) := by decide +kernel
theorem dd_L_law_558 : decode mb_L_law 558 = .ok (.lcmp, 1) := by decide +kernel
theorem dd_L_law_559 : decode mb_L_law 559 = .ok (.ifCond .eq 5, 3) := by decide +kernel
theorem dd_L_law_562 : decode mb_L_law 562 = .ok (.iconst 0, 1) := by decide +kernel
theorem dd_L_law_563 : decode mb_L_law 563 = .ok (.ireturn, 1) := by decide +kernel
theorem dd_L_law_564 : decode mb_L_law 564 = .ok (.goto 238, 3) := by decide +kernel
theorem dd_L_law_567 : decode mb_L_law 567 = .ok (.aload_n 1, 1) := by decide +kernel
theorem dd_L_law_568 : decode mb_L_law 568 = .ok (.aload_n 0, 1) := by decide +kernel
theorem dd_L_law_569 : decode mb_L_law 569 = .ok (.iload 4, 2) := by decide +kernel
theorem dd_L_law_571 : decode mb_L_law 571 = .ok (.iconst 1, 1) := by decide +kernel
theorem dd_L_law_572 : decode mb_L_law 572 = .ok (.iadd, 1) := by decide +kernel
theorem dd_L_law_573 : decode mb_L_law 573 = .ok (.iaload, 1) := by decide +kernel
theorem dd_L_law_574 : decode mb_L_law 574 = .ok (.aload_n 3, 1) := by decide +kernel
theorem dd_L_law_575 : decode mb_L_law 575 = .ok (.invokestatic 94, 3) := by decide +kernel
theorem dd_L_law_578 : decode mb_L_law 578 = .ok (.istore 5, 2) := by decide +kernel
theorem dd_L_law_580 : decode mb_L_law 580 = .ok (.aload_n 2, 1) := by decide +kernel
theorem dd_L_law_581 : decode mb_L_law 581 = .ok (.aload_n 0, 1) := by decide +kernel
theorem dd_L_law_582 : decode mb_L_law 582 = .ok (.iload 4, 2) := by decide +kernel
theorem dd_L_law_584 : decode mb_L_law 584 = .ok (.iconst 1, 1) := by decide +kernel
theorem dd_L_law_585 : decode mb_L_law 585 = .ok (.iadd, 1) := by decide +kernel
theorem dd_L_law_586 : decode mb_L_law 586 = .ok (.iaload, 1) := by decide +kernel
theorem dd_L_law_587 : decode mb_L_law 587 = .ok (.invokevirtual 96, 3) := by decide +kernel
theorem dd_L_law_590 : decode mb_L_law 590 = .ok (.istore 6, 2) := by decide +kernel
theorem dd_L_law_592 : decode mb_L_law 592 = .ok (.aload_n 2, 1) := by decide +kernel
theorem dd_L_law_593 : decode mb_L_law 593 = .ok (.invokevirtual 67, 3) := by decide +kernel
theorem dd_L_law_596 : decode mb_L_law 596 = .ok (.iload 5, 2) := by decide +kernel
theorem dd_L_law_598 : decode mb_L_law 598 = .ok (.if_icmp .eq 5, 3) := by decide +kernel
theorem dd_L_law_601 : decode mb_L_law 601 = .ok (.iconst 0, 1) := by decide +kernel
theorem dd_L_law_602 : decode mb_L_law 602 = .ok (.ireturn, 1) := by decide +kernel
theorem dd_L_law_603 : decode mb_L_law 603 = .ok (.iload 5, 2) := by decide +kernel
theorem dd_L_law_605 : decode mb_L_law 605 = .ok (.ifCond .ne 22, 3) := by decide +kernel
theorem dd_L_law_608 : decode mb_L_law 608 = .ok (.aload_n 3, 1) := by decide +kernel
theorem dd_L_law_609 : decode mb_L_law 609 = .ok (.iconst 0, 1) := by decide +kernel
theorem dd_L_law_610 : decode mb_L_law 610 = .ok (.laload, 1) := by decide +kernel
theorem dd_L_law_611 : decode mb_L_law 611 = .ok (.iload 6, 2) := by decide +kernel
theorem dd_L_law_613 : decode mb_L_law 613 = .ok (.ifCond .eq 7, 3) := by decide +kernel
theorem dd_L_law_616 : decode mb_L_law 616 = .ok (.lconst 1, 1) := by decide +kernel
theorem dd_L_law_617 : decode mb_L_law 617 = .ok (.goto 4, 3) := by decide +kernel
theorem dd_L_law_620 : decode mb_L_law 620 = .ok (.lconst 0, 1) := by decide +kernel
theorem dd_L_law_621 : decode mb_L_law 621 = .ok (.lcmp, 1) := by decide +kernel
theorem dd_L_law_622 : decode mb_L_law 622 = .ok (.ifCond .eq 5, 3) := by decide +kernel
theorem dd_L_law_625 : decode mb_L_law 625 = .ok (.iconst 0, 1) := by decide +kernel
theorem dd_L_law_626 : decode mb_L_law 626 = .ok (.ireturn, 1) := by decide +kernel
theorem dd_L_law_627 : decode mb_L_law 627 = .ok (.goto 175, 3) := by decide +kernel
theorem dd_L_law_630 : decode mb_L_law 630 = .ok (.aload_n 1, 1) := by decide +kernel
theorem dd_L_law_631 : decode mb_L_law 631 = .ok (.aload_n 0, 1) := by decide +kernel
theorem dd_L_law_632 : decode mb_L_law 632 = .ok (.iload 4, 2) := by decide +kernel
theorem dd_L_law_634 : decode mb_L_law 634 = .ok (.iconst 1, 1) := by decide +kernel
theorem dd_L_law_635 : decode mb_L_law 635 = .ok (.iadd, 1) := by decide +kernel
theorem dd_L_law_636 : decode mb_L_law 636 = .ok (.iaload, 1) := by decide +kernel
theorem dd_L_law_637 : decode mb_L_law 637 = .ok (.invokestatic 97, 3) := by decide +kernel
theorem dd_L_law_640 : decode mb_L_law 640 = .ok (.istore 5, 2) := by decide +kernel
theorem dd_L_law_642 : decode mb_L_law 642 = .ok (.aload_n 2, 1) := by decide +kernel
theorem dd_L_law_643 : decode mb_L_law 643 = .ok (.aload_n 0, 1) := by decide +kernel
theorem dd_L_law_644 : decode mb_L_law 644 = .ok (.iload 4, 2) := by decide +kernel
theorem dd_L_law_646 : decode mb_L_law 646 = .ok (.iconst 1, 1) := by decide +kernel
theorem dd_L_law_647 : decode mb_L_law 647 = .ok (.iadd, 1) := by decide +kernel
theorem dd_L_law_648 : decode mb_L_law 648 = .ok (.iaload, 1) := by decide +kernel
theorem dd_L_law_649 : decode mb_L_law 649 = .ok (.invokevirtual 100, 3) := by decide +kernel
theorem dd_L_law_652 : decode mb_L_law 652 = .ok (.aload_n 2, 1) := by decide +kernel
theorem dd_L_law_653 : decode mb_L_law 653 = .ok (.invokevirtual 67, 3) := by decide +kernel
theorem dd_L_law_656 : decode mb_L_law 656 = .ok (.iload 5, 2) := by decide +kernel
theorem dd_L_law_658 : decode mb_L_law 658 = .ok (.if_icmp .eq 5, 3) := by decide +kernel
theorem dd_L_law_661 : decode mb_L_law 661 = .ok (.iconst 0, 1) := by decide +kernel
theorem dd_L_law_662 : decode mb_L_law 662 = .ok (.ireturn, 1) := by decide +kernel
theorem dd_L_law_663 : decode mb_L_law 663 = .ok (.goto 139, 3) := by decide +kernel
theorem dd_L_law_666 : decode mb_L_law 666 = .ok (.aload_n 1, 1) := by decide +kernel
theorem dd_L_law_667 : decode mb_L_law 667 = .ok (.aload_n 0, 1) := by decide +kernel
theorem dd_L_law_668 : decode mb_L_law 668 = .ok (.iload 4, 2) := by decide +kernel
theorem dd_L_law_670 : decode mb_L_law 670 = .ok (.iconst 1, 1) := by decide +kernel
theorem dd_L_law_671 : decode mb_L_law 671 = .ok (.iadd, 1) := by decide +kernel
theorem dd_L_law_672 : decode mb_L_law 672 = .ok (.iaload, 1) := by decide +kernel
theorem dd_L_law_673 : decode mb_L_law 673 = .ok (.i2l, 1) := by decide +kernel
theorem dd_L_law_674 : decode mb_L_law 674 = .ok (.bipush 32, 2) := by decide +kernel
theorem dd_L_law_676 : decode mb_L_law 676 = .ok (.lshl, 1) := by decide +kernel
theorem dd_L_law_677 : decode mb_L_law 677 = .ok (.aload_n 0, 1) := by decide +kernel
theorem dd_L_law_678 : decode mb_L_law 678 = .ok (.iload 4, 2) := by decide +kernel
theorem dd_L_law_680 : decode mb_L_law 680 = .ok (.iconst 2, 1) := by decide +kernel
theorem dd_L_law_681 : decode mb_L_law 681 = .ok (.iadd, 1) := by decide +kernel
theorem dd_L_law_682 : decode mb_L_law 682 = .ok (.iaload, 1) := by decide +kernel
theorem dd_L_law_683 : decode mb_L_law 683 = .ok (.i2l, 1) := by decide +kernel
theorem dd_L_law_684 : decode mb_L_law 684 = .ok (.ldc2_w 59, 3) := by decide +kernel
theorem dd_L_law_687 : decode mb_L_law 687 = .ok (.land, 1) := by decide +kernel
theorem dd_L_law_688 : decode mb_L_law 688 = .ok (.lor, 1) := by decide +kernel
theorem dd_L_law_689 : decode mb_L_law 689 = .ok (.aload_n 0, 1) := by decide +kernel
theorem dd_L_law_690 : decode mb_L_law 690 = .ok (.iload 4, 2) := by decide +kernel
theorem dd_L_law_692 : decode mb_L_law 692 = .ok (.iconst 3, 1) := by decide +kernel
theorem dd_L_law_693 : decode mb_L_law 693 = .ok (.iadd, 1) := by decide +kernel
theorem dd_L_law_694 : decode mb_L_law 694 = .ok (.iaload, 1) := by decide +kernel
theorem dd_L_law_695 : decode mb_L_law 695 = .ok (.aload_n 3, 1) := by decide +kernel
theorem dd_L_law_696 : decode mb_L_law 696 = .ok (.invokestatic 101, 3) := by decide +kernel
theorem dd_L_law_699 : decode mb_L_law 699 = .ok (.istore 5, 2) := by decide +kernel
theorem dd_L_law_701 : decode mb_L_law 701 = .ok (.aload_n 2, 1) := by decide +kernel
theorem dd_L_law_702 : decode mb_L_law 702 = .ok (.aload_n 0, 1) := by decide +kernel
theorem dd_L_law_703 : decode mb_L_law 703 = .ok (.iload 4, 2) := by decide +kernel
theorem dd_L_law_705 : decode mb_L_law 705 = .ok (.iconst 1, 1) := by decide +kernel
theorem dd_L_law_706 : decode mb_L_law 706 = .ok (.iadd, 1) := by decide +kernel
theorem dd_L_law_707 : decode mb_L_law 707 = .ok (.iaload, 1) := by decide +kernel
theorem dd_L_law_708 : decode mb_L_law 708 = .ok (.i2l, 1) := by decide +kernel
theorem dd_L_law_709 : decode mb_L_law 709 = .ok (.bipush 32, 2) := by decide +kernel
theorem dd_L_law_711 : decode mb_L_law 711 = .ok (.lshl, 1) := by decide +kernel
theorem dd_L_law_712 : decode mb_L_law 712 = .ok (.aload_n 0, 1) := by decide +kernel
theorem dd_L_law_713 : decode mb_L_law 713 = .ok (.iload 4, 2) := by decide +kernel
theorem dd_L_law_715 : decode mb_L_law 715 = .ok (.iconst 2, 1) := by decide +kernel
theorem dd_L_law_716 : decode mb_L_law 716 = .ok (.iadd, 1) := by decide +kernel
theorem dd_L_law_717 : decode mb_L_law 717 = .ok (.iaload, 1) := by decide +kernel
theorem dd_L_law_718 : decode mb_L_law 718 = .ok (.i2l, 1) := by decide +kernel
theorem dd_L_law_719 : decode mb_L_law 719 = .ok (.ldc2_w 59, 3) := by decide +kernel
theorem dd_L_law_722 : decode mb_L_law 722 = .ok (.land, 1) := by decide +kernel
theorem dd_L_law_723 : decode mb_L_law 723 = .ok (.lor, 1) := by decide +kernel
theorem dd_L_law_724 : decode mb_L_law 724 = .ok (.aload_n 0, 1) := by decide +kernel
theorem dd_L_law_725 : decode mb_L_law 725 = .ok (.iload 4, 2) := by decide +kernel
theorem dd_L_law_727 : decode mb_L_law 727 = .ok (.iconst 3, 1) := by decide +kernel
theorem dd_L_law_728 : decode mb_L_law 728 = .ok (.iadd, 1) := by decide +kernel
theorem dd_L_law_729 : decode mb_L_law 729 = .ok (.iaload, 1) := by decide +kernel
theorem dd_L_law_730 : decode mb_L_law 730 = .ok (.invokevirtual 104, 3) := by decide +kernel
theorem dd_L_law_733 : decode mb_L_law 733 = .ok (.istore 6, 2) := by decide +kernel
theorem dd_L_law_735 : decode mb_L_law 735 = .ok (.aload_n 2, 1) := by decide +kernel
theorem dd_L_law_736 : decode mb_L_law 736 = .ok (.invokevirtual 67, 3) := by decide +kernel
theorem dd_L_law_739 : decode mb_L_law 739 = .ok (.iload 5, 2) := by decide +kernel
theorem dd_L_law_741 : decode mb_L_law 741 = .ok (.if_icmp .eq 5, 3) := by decide +kernel
theorem dd_L_law_744 : decode mb_L_law 744 = .ok (.iconst 0, 1) := by decide +kernel
theorem dd_L_law_745 : decode mb_L_law 745 = .ok (.ireturn, 1) := by decide +kernel
theorem dd_L_law_746 : decode mb_L_law 746 = .ok (.iload 5, 2) := by decide +kernel
theorem dd_L_law_748 : decode mb_L_law 748 = .ok (.ifCond .ne 15, 3) := by decide +kernel
theorem dd_L_law_751 : decode mb_L_law 751 = .ok (.aload_n 3, 1) := by decide +kernel
theorem dd_L_law_752 : decode mb_L_law 752 = .ok (.iconst 0, 1) := by decide +kernel
theorem dd_L_law_753 : decode mb_L_law 753 = .ok (.laload, 1) := by decide +kernel
theorem dd_L_law_754 : decode mb_L_law 754 = .ok (.iload 6, 2) := by decide +kernel
theorem dd_L_law_756 : decode mb_L_law 756 = .ok (.i2l, 1) := by decide +kernel
theorem dd_L_law_757 : decode mb_L_law 757 = .ok (.lcmp, 1) := by decide +kernel
theorem dd_L_law_758 : decode mb_L_law 758 = .ok (.ifCond .eq 5, 3) := by decide +kernel
theorem dd_L_law_761 : decode mb_L_law 761 = .ok (.iconst 0, 1) := by decide +kernel
theorem dd_L_law_762 : decode mb_L_law 762 = .ok (.ireturn, 1) := by decide +kernel
theorem dd_L_law_763 : decode mb_L_law 763 = .ok (.goto 39, 3) := by decide +kernel
theorem dd_L_law_766 : decode mb_L_law 766 = .ok (.aload_n 1, 1) := by decide +kernel
theorem dd_L_law_767 : decode mb_L_law 767 = .ok (.aload_n 0, 1) := by decide +kernel
theorem dd_L_law_768 : decode mb_L_law 768 = .ok (.iload 4, 2) := by decide +kernel
theorem dd_L_law_770 : decode mb_L_law 770 = .ok (.iconst 1, 1) := by decide +kernel
theorem dd_L_law_771 : decode mb_L_law 771 = .ok (.iadd, 1) := by decide +kernel
theorem dd_L_law_772 : decode mb_L_law 772 = .ok (.iaload, 1) := by decide +kernel
theorem dd_L_law_773 : decode mb_L_law 773 = .ok (.invokestatic 105, 3) := by decide +kernel
theorem dd_L_law_776 : decode mb_L_law 776 = .ok (.istore 5, 2) := by decide +kernel
theorem dd_L_law_778 : decode mb_L_law 778 = .ok (.aload_n 2, 1) := by decide +kernel
theorem dd_L_law_779 : decode mb_L_law 779 = .ok (.aload_n 0, 1) := by decide +kernel
theorem dd_L_law_780 : decode mb_L_law 780 = .ok (.iload 4, 2) := by decide +kernel
theorem dd_L_law_782 : decode mb_L_law 782 = .ok (.iconst 1, 1) := by decide +kernel
theorem dd_L_law_783 : decode mb_L_law 783 = .ok (.iadd, 1) := by decide +kernel
theorem dd_L_law_784 : decode mb_L_law 784 = .ok (.iaload, 1) := by decide +kernel
theorem dd_L_law_785 : decode mb_L_law 785 = .ok (.invokevirtual 107, 3) := by decide +kernel
theorem dd_L_law_788 : decode mb_L_law 788 = .ok (.aload_n 2, 1) := by decide +kernel
theorem dd_L_law_789 : decode mb_L_law 789 = .ok (.invokevirtual 67, 3) := by decide +kernel
theorem dd_L_law_792 : decode mb_L_law 792 = .ok (.iload 5, 2) := by decide +kernel
theorem dd_L_law_794 : decode mb_L_law 794 = .ok (.if_icmp .eq 5, 3) := by decide +kernel
theorem dd_L_law_797 : decode mb_L_law 797 = .ok (.iconst 0, 1) := by decide +kernel
theorem dd_L_law_798 : decode mb_L_law 798 = .ok (.ireturn, 1) := by decide +kernel
theorem dd_L_law_799 : decode mb_L_law 799 = .ok (.goto 3, 3) := by decide +kernel
theorem dd_L_law_802 : decode mb_L_law 802 = .ok (.iinc 4 5, 3) := by decide +kernel
theorem dd_L_law_805 : decode mb_L_law 805 = .ok (.goto (-782), 3) := by decide +kernel
theorem dd_L_law_808 : decode mb_L_law 808 = .ok (.iconst 1, 1) := by decide +kernel
theorem dd_L_law_809 : decode mb_L_law 809 = .ok (.ireturn, 1) := by decide +kernel
