abbrev cLW_law : ByteArray := code
theorem dLW_law_0 : decode cLW_law 0 = .ok (.new 8, 3) := by decide +kernel
theorem dLW_law_3 : decode cLW_law 3 = .ok (.dup, 1) := by decide +kernel
theorem dLW_law_4 : decode cLW_law 4 = .ok (.invokespecial 25, 3) := by decide +kernel
theorem dLW_law_7 : decode cLW_law 7 = .ok (.astore_n 1, 1) := by decide +kernel
theorem dLW_law_8 : decode cLW_law 8 = .ok (.new 26, 3) := by decide +kernel
theorem dLW_law_11 : decode cLW_law 11 = .ok (.dup, 1) := by decide +kernel
theorem dLW_law_12 : decode cLW_law 12 = .ok (.invokespecial 28, 3) := by decide +kernel
theorem dLW_law_15 : decode cLW_law 15 = .ok (.astore_n 2, 1) := by decide +kernel
theorem dLW_law_16 : decode cLW_law 16 = .ok (.iconst 1, 1) := by decide +kernel
theorem dLW_law_17 : decode cLW_law 17 = .ok (.newarray .long, 2) := by decide +kernel
theorem dLW_law_19 : decode cLW_law 19 = .ok (.astore_n 3, 1) := by decide +kernel
theorem dLW_law_20 : decode cLW_law 20 = .ok (.iconst 0, 1) := by decide +kernel
theorem dLW_law_21 : decode cLW_law 21 = .ok (.istore 4, 2) := by decide +kernel
theorem dLW_law_23 : decode cLW_law 23 = .ok (.iload 4, 2) := by decide +kernel
theorem dLW_law_25 : decode cLW_law 25 = .ok (.aload_n 0, 1) := by decide +kernel
theorem dLW_law_26 : decode cLW_law 26 = .ok (.arraylength, 1) := by decide +kernel
theorem dLW_law_27 : decode cLW_law 27 = .ok (.iconst 5, 1) := by decide +kernel
theorem dLW_law_28 : decode cLW_law 28 = .ok (.isub, 1) := by decide +kernel
theorem dLW_law_29 : decode cLW_law 29 = .ok (.if_icmp .gt 523, 3) := by decide +kernel
theorem dLW_law_32 : decode cLW_law 32 = .ok (.aload_n 0, 1) := by decide +kernel
theorem dLW_law_33 : decode cLW_law 33 = .ok (.iload 4, 2) := by decide +kernel
theorem dLW_law_35 : decode cLW_law 35 = .ok (.iaload, 1) := by decide +kernel
theorem dLW_law_36 : decode cLW_law 36 = .ok (.bipush 15, 2) := by decide +kernel
theorem dLW_law_38 : decode cLW_law 38 = .ok (.iand, 1) := by decide +kernel
theorem dLW_law_39 : decode cLW_law 39 = .ok (.tableswitch 507 0 12 #[65, 126, 137, 209, 265, 291, 316, 329, 354, 391, 416, 441, 454], 65) := by decide +kernel
theorem dLW_law_104 : decode cLW_law 104 = .ok (.aload_n 1, 1) := by decide +kernel
theorem dLW_law_105 : decode cLW_law 105 = .ok (.aload_n 0, 1) := by decide +kernel
theorem dLW_law_106 : decode cLW_law 106 = .ok (.iload 4, 2) := by decide +kernel
theorem dLW_law_108 : decode cLW_law 108 = .ok (.iconst 1, 1) := by decide +kernel
theorem dLW_law_109 : decode cLW_law 109 = .ok (.iadd, 1) := by decide +kernel
theorem dLW_law_110 : decode cLW_law 110 = .ok (.iaload, 1) := by decide +kernel
theorem dLW_law_111 : decode cLW_law 111 = .ok (.aload_n 0, 1) := by decide +kernel
theorem dLW_law_112 : decode cLW_law 112 = .ok (.iload 4, 2) := by decide +kernel
theorem dLW_law_114 : decode cLW_law 114 = .ok (.iconst 2, 1) := by decide +kernel
theorem dLW_law_115 : decode cLW_law 115 = .ok (.iadd, 1) := by decide +kernel
theorem dLW_law_116 : decode cLW_law 116 = .ok (.iaload, 1) := by decide +kernel
theorem dLW_law_117 : decode cLW_law 117 = .ok (.aload_n 0, 1) := by decide +kernel
theorem dLW_law_118 : decode cLW_law 118 = .ok (.iload 4, 2) := by decide +kernel
theorem dLW_law_120 : decode cLW_law 120 = .ok (.iconst 3, 1) := by decide +kernel
theorem dLW_law_121 : decode cLW_law 121 = .ok (.iadd, 1) := by decide +kernel
theorem dLW_law_122 : decode cLW_law 122 = .ok (.iaload, 1) := by decide +kernel
theorem dLW_law_123 : decode cLW_law 123 = .ok (.aload_n 0, 1) := by decide +kernel
theorem dLW_law_124 : decode cLW_law 124 = .ok (.iload 4, 2) := by decide +kernel
theorem dLW_law_126 : decode cLW_law 126 = .ok (.iconst 4, 1) := by decide +kernel
theorem dLW_law_127 : decode cLW_law 127 = .ok (.iadd, 1) := by decide +kernel
theorem dLW_law_128 : decode cLW_law 128 = .ok (.iaload, 1) := by decide +kernel
theorem dLW_law_129 : decode cLW_law 129 = .ok (.invokevirtual 29, 3) := by decide +kernel
theorem dLW_law_132 : decode cLW_law 132 = .ok (.aload_n 2, 1) := by decide +kernel
theorem dLW_law_133 : decode cLW_law 133 = .ok (.aload_n 0, 1) := by decide +kernel
theorem dLW_law_134 : decode cLW_law 134 = .ok (.iload 4, 2) := by decide +kernel
theorem dLW_law_136 : decode cLW_law 136 = .ok (.iconst 1, 1) := by decide +kernel
theorem dLW_law_137 : decode cLW_law 137 = .ok (.iadd, 1) := by decide +kernel
theorem dLW_law_138 : decode cLW_law 138 = .ok (.iaload, 1) := by decide +kernel
theorem dLW_law_139 : decode cLW_law 139 = .ok (.aload_n 0, 1) := by decide +kernel
theorem dLW_law_140 : decode cLW_law 140 = .ok (.iload 4, 2) := by decide +kernel
theorem dLW_law_142 : decode cLW_law 142 = .ok (.iconst 2, 1) := by decide +kernel
theorem dLW_law_143 : decode cLW_law 143 = .ok (.iadd, 1) := by decide +kernel
theorem dLW_law_144 : decode cLW_law 144 = .ok (.iaload, 1) := by decide +kernel
theorem dLW_law_145 : decode cLW_law 145 = .ok (.aload_n 0, 1) := by decide +kernel
theorem dLW_law_146 : decode cLW_law 146 = .ok (.iload 4, 2) := by decide +kernel
theorem dLW_law_148 : decode cLW_law 148 = .ok (.iconst 3, 1) := by decide +kernel
theorem dLW_law_149 : decode cLW_law 149 = .ok (.iadd, 1) := by decide +kernel
theorem dLW_law_150 : decode cLW_law 150 = .ok (.iaload, 1) := by decide +kernel
theorem dLW_law_151 : decode cLW_law 151 = .ok (.aload_n 0, 1) := by decide +kernel
theorem dLW_law_152 : decode cLW_law 152 = .ok (.iload 4, 2) := by decide +kernel
theorem dLW_law_154 : decode cLW_law 154 = .ok (.iconst 4, 1) := by decide +kernel
theorem dLW_law_155 : decode cLW_law 155 = .ok (.iadd, 1) := by decide +kernel
theorem dLW_law_156 : decode cLW_law 156 = .ok (.iaload, 1) := by decide +kernel
theorem dLW_law_157 : decode cLW_law 157 = .ok (.invokevirtual 33, 3) := by decide +kernel
theorem dLW_law_160 : decode cLW_law 160 = .ok (.if_icmp .eq 386, 3) := by decide +kernel
theorem dLW_law_163 : decode cLW_law 163 = .ok (.iconst 0, 1) := by decide +kernel
theorem dLW_law_164 : decode cLW_law 164 = .ok (.ireturn, 1) := by decide +kernel
theorem dLW_law_165 : decode cLW_law 165 = .ok (.aload_n 1, 1) := by decide +kernel
theorem dLW_law_166 : decode cLW_law 166 = .ok (.invokevirtual 34, 3) := by decide +kernel
theorem dLW_law_169 : decode cLW_law 169 = .ok (.aload_n 2, 1) := by decide +kernel
theorem dLW_law_170 : decode cLW_law 170 = .ok (.invokevirtual 37, 3) := by decide +kernel
theorem dLW_law_173 : decode cLW_law 173 = .ok (.goto 373, 3) := by decide +kernel
theorem dLW_law_176 : decode cLW_law 176 = .ok (.aload_n 1, 1) := by decide +kernel
theorem dLW_law_177 : decode cLW_law 177 = .ok (.aload_n 0, 1) := by decide +kernel
theorem dLW_law_178 : decode cLW_law 178 = .ok (.iload 4, 2) := by decide +kernel
theorem dLW_law_180 : decode cLW_law 180 = .ok (.iconst 1, 1) := by decide +kernel
theorem dLW_law_181 : decode cLW_law 181 = .ok (.iadd, 1) := by decide +kernel
theorem dLW_law_182 : decode cLW_law 182 = .ok (.iaload, 1) := by decide +kernel
theorem dLW_law_183 : decode cLW_law 183 = .ok (.ifCond .eq 7, 3) := by decide +kernel
theorem dLW_law_186 : decode cLW_law 186 = .ok (.iconst 1, 1) := by decide +kernel
theorem dLW_law_187 : decode cLW_law 187 = .ok (.goto 4, 3) := by decide +kernel
theorem dLW_law_190 : decode cLW_law 190 = .ok (.iconst 0, 1) := by decide +kernel
theorem dLW_law_191 : decode cLW_law 191 = .ok (.aload_n 3, 1) := by decide +kernel
theorem dLW_law_192 : decode cLW_law 192 = .ok (.invokestatic 38, 3) := by decide +kernel
theorem dLW_law_195 : decode cLW_law 195 = .ok (.istore 5, 2) := by decide +kernel
theorem dLW_law_197 : decode cLW_law 197 = .ok (.aload_n 2, 1) := by decide +kernel
theorem dLW_law_198 : decode cLW_law 198 = .ok (.aload_n 0, 1) := by decide +kernel
theorem dLW_law_199 : decode cLW_law 199 = .ok (.iload 4, 2) := by decide +kernel
theorem dLW_law_201 : decode cLW_law 201 = .ok (.iconst 1, 1) := by decide +kernel
theorem dLW_law_202 : decode cLW_law 202 = .ok (.iadd, 1) := by decide +kernel
theorem dLW_law_203 : decode cLW_law 203 = .ok (.iaload, 1) := by decide +kernel
theorem dLW_law_204 : decode cLW_law 204 = .ok (.ifCond .eq 7, 3) := by decide +kernel
theorem dLW_law_207 : decode cLW_law 207 = .ok (.iconst 1, 1) := by decide +kernel
theorem dLW_law_208 : decode cLW_law 208 = .ok (.goto 4, 3) := by decide +kernel
theorem dLW_law_211 : decode cLW_law 211 = .ok (.iconst 0, 1) := by decide +kernel
theorem dLW_law_212 : decode cLW_law 212 = .ok (.invokevirtual 43, 3) := by decide +kernel
theorem dLW_law_215 : decode cLW_law 215 = .ok (.istore 6, 2) := by decide +kernel
theorem dLW_law_217 : decode cLW_law 217 = .ok (.aload_n 2, 1) := by decide +kernel
theorem dLW_law_218 : decode cLW_law 218 = .ok (.invokevirtual 44, 3) := by decide +kernel
theorem dLW_law_221 : decode cLW_law 221 = .ok (.iload 5, 2) := by decide +kernel
theorem dLW_law_223 : decode cLW_law 223 = .ok (.if_icmp .eq 5, 3) := by decide +kernel
theorem dLW_law_226 : decode cLW_law 226 = .ok (.iconst 0, 1) := by decide +kernel
theorem dLW_law_227 : decode cLW_law 227 = .ok (.ireturn, 1) := by decide +kernel
theorem dLW_law_228 : decode cLW_law 228 = .ok (.iload 5, 2) := by decide +kernel
theorem dLW_law_230 : decode cLW_law 230 = .ok (.ifCond .ne 15, 3) := by decide +kernel
theorem dLW_law_233 : decode cLW_law 233 = .ok (.aload_n 3, 1) := by decide +kernel
theorem dLW_law_234 : decode cLW_law 234 = .ok (.iconst 0, 1) := by decide +kernel
theorem dLW_law_235 : decode cLW_law 235 = .ok (.laload, 1) := by decide +kernel
theorem dLW_law_236 : decode cLW_law 236 = .ok (.iload 6, 2) := by decide +kernel
theorem dLW_law_238 : decode cLW_law 238 = .ok (.i2l, 1) := by decide +kernel
theorem dLW_law_239 : decode cLW_law 239 = .ok (.lcmp, 1) := by decide +kernel
theorem dLW_law_240 : decode cLW_law 240 = .ok (.ifCond .eq 5, 3) := by decide +kernel
theorem dLW_law_243 : decode cLW_law 243 = .ok (.iconst 0, 1) := by decide +kernel
theorem dLW_law_244 : decode cLW_law 244 = .ok (.ireturn, 1) := by decide +kernel
theorem dLW_law_245 : decode cLW_law 245 = .ok (.goto 301, 3) := by decide +kernel
theorem dLW_law_248 : decode cLW_law 248 = .ok (.aload_n 1, 1) := by decide +kernel
theorem dLW_law_249 : decode cLW_law 249 = .ok (.aload_n 0, 1) := by decide +kernel
theorem dLW_law_250 : decode cLW_law 250 = .ok (.iload 4, 2) := by decide +kernel
theorem dLW_law_252 : decode cLW_law 252 = .ok (.iconst 1, 1) := by decide +kernel
theorem dLW_law_253 : decode cLW_law 253 = .ok (.iadd, 1) := by decide +kernel
theorem dLW_law_254 : decode cLW_law 254 = .ok (.iaload, 1) := by decide +kernel
theorem dLW_law_255 : decode cLW_law 255 = .ok (.aload_n 3, 1) := by decide +kernel
theorem dLW_law_256 : decode cLW_law 256 = .ok (.invokestatic 48, 3) := by decide +kernel
theorem dLW_law_259 : decode cLW_law 259 = .ok (.istore 5, 2) := by decide +kernel
theorem dLW_law_261 : decode cLW_law 261 = .ok (.aload_n 2, 1) := by decide +kernel
theorem dLW_law_262 : decode cLW_law 262 = .ok (.aload_n 0, 1) := by decide +kernel
theorem dLW_law_263 : decode cLW_law 263 = .ok (.iload 4, 2) := by decide +kernel
theorem dLW_law_265 : decode cLW_law 265 = .ok (.iconst 1, 1) := by decide +kernel
theorem dLW_law_266 : decode cLW_law 266 = .ok (.iadd, 1) := by decide +kernel
theorem dLW_law_267 : decode cLW_law 267 = .ok (.iaload, 1) := by decide +kernel
theorem dLW_law_268 : decode cLW_law 268 = .ok (.invokevirtual 51, 3) := by decide +kernel
theorem dLW_law_271 : decode cLW_law 271 = .ok (.istore 6, 2) := by decide +kernel
theorem dLW_law_273 : decode cLW_law 273 = .ok (.aload_n 2, 1) := by decide +kernel
theorem dLW_law_274 : decode cLW_law 274 = .ok (.invokevirtual 44, 3) := by decide +kernel
theorem dLW_law_277 : decode cLW_law 277 = .ok (.iload 5, 2) := by decide +kernel
theorem dLW_law_279 : decode cLW_law 279 = .ok (.if_icmp .eq 5, 3) := by decide +kernel
theorem dLW_law_282 : decode cLW_law 282 = .ok (.iconst 0, 1) := by decide +kernel
theorem dLW_law_283 : decode cLW_law 283 = .ok (.ireturn, 1) := by decide +kernel
theorem dLW_law_284 : decode cLW_law 284 = .ok (.iload 5, 2) := by decide +kernel
theorem dLW_law_286 : decode cLW_law 286 = .ok (.ifCond .ne 15, 3) := by decide +kernel
theorem dLW_law_289 : decode cLW_law 289 = .ok (.aload_n 3, 1) := by decide +kernel
theorem dLW_law_290 : decode cLW_law 290 = .ok (.iconst 0, 1) := by decide +kernel
theorem dLW_law_291 : decode cLW_law 291 = .ok (.laload, 1) := by decide +kernel
theorem dLW_law_292 : decode cLW_law 292 = .ok (.iload 6, 2) := by decide +kernel
theorem dLW_law_294 : decode cLW_law 294 = .ok (.i2l, 1) := by decide +kernel
theorem dLW_law_295 : decode cLW_law 295 = .ok (.lcmp, 1) := by decide +kernel
theorem dLW_law_296 : decode cLW_law 296 = .ok (.ifCond .eq 5, 3) := by decide +kernel
theorem dLW_law_299 : decode cLW_law 299 = .ok (.iconst 0, 1) := by decide +kernel
theorem dLW_law_300 : decode cLW_law 300 = .ok (.ireturn, 1) := by decide +kernel
theorem dLW_law_301 : decode cLW_law 301 = .ok (.goto 245, 3) := by decide +kernel
theorem dLW_law_304 : decode cLW_law 304 = .ok (.aload_n 1, 1) := by decide +kernel
theorem dLW_law_305 : decode cLW_law 305 = .ok (.aload_n 0, 1) := by decide +kernel
theorem dLW_law_306 : decode cLW_law 306 = .ok (.iload 4, 2) := by decide +kernel
theorem dLW_law_308 : decode cLW_law 308 = .ok (.iconst 1, 1) := by decide +kernel
theorem dLW_law_309 : decode cLW_law 309 = .ok (.iadd, 1) := by decide +kernel
theorem dLW_law_310 : decode cLW_law 310 = .ok (.iaload, 1) := by decide +kernel
theorem dLW_law_311 : decode cLW_law 311 = .ok (.invokevirtual 52, 3) := by decide +kernel
theorem dLW_law_314 : decode cLW_law 314 = .ok (.aload_n 2, 1) := by decide +kernel
theorem dLW_law_315 : decode cLW_law 315 = .ok (.aload_n 0, 1) := by decide +kernel
theorem dLW_law_316 : decode cLW_law 316 = .ok (.iload 4, 2) := by decide +kernel
theorem dLW_law_318 : decode cLW_law 318 = .ok (.iconst 1, 1) := by decide +kernel
theorem dLW_law_319 : decode cLW_law 319 = .ok (.iadd, 1) := by decide +kernel
theorem dLW_law_320 : decode cLW_law 320 = .ok (.iaload, 1) := by decide +kernel
theorem dLW_law_321 : decode cLW_law 321 = .ok (.invokevirtual 56, 3) := by decide +kernel
theorem dLW_law_324 : decode cLW_law 324 = .ok (.lcmp, 1) := by decide +kernel
theorem dLW_law_325 : decode cLW_law 325 = .ok (.ifCond .eq 221, 3) := by decide +kernel
theorem dLW_law_328 : decode cLW_law 328 = .ok (.iconst 0, 1) := by decide +kernel
theorem dLW_law_329 : decode cLW_law 329 = .ok (.ireturn, 1) := by decide +kernel
theorem dLW_law_330 : decode cLW_law 330 = .ok (.aload_n 1, 1) := by decide +kernel
theorem dLW_law_331 : decode cLW_law 331 = .ok (.aload_n 0, 1) := by decide +kernel
theorem dLW_law_332 : decode cLW_law 332 = .ok (.iload 4, 2) := by decide +kernel
theorem dLW_law_334 : decode cLW_law 334 = .ok (.iconst 1, 1) := by decide +kernel
theorem dLW_law_335 : decode cLW_law 335 = .ok (.iadd, 1) := by decide +kernel
theorem dLW_law_336 : decode cLW_law 336 = .ok (.iaload, 1) := by decide +kernel
theorem dLW_law_337 : decode cLW_law 337 = .ok (.invokevirtual 57, 3) := by decide +kernel
theorem dLW_law_340 : decode cLW_law 340 = .ok (.aload_n 2, 1) := by decide +kernel
theorem dLW_law_341 : decode cLW_law 341 = .ok (.aload_n 0, 1) := by decide +kernel
theorem dLW_law_342 : decode cLW_law 342 = .ok (.iload 4, 2) := by decide +kernel
theorem dLW_law_344 : decode cLW_law 344 = .ok (.iconst 1, 1) := by decide +kernel
theorem dLW_law_345 : decode cLW_law 345 = .ok (.iadd, 1) := by decide +kernel
theorem dLW_law_346 : decode cLW_law 346 = .ok (.iaload, 1) := by decide +kernel
theorem dLW_law_347 : decode cLW_law 347 = .ok (.invokevirtual 60, 3) := by decide +kernel
theorem dLW_law_350 : decode cLW_law 350 = .ok (.if_icmp .eq 196, 3) := by decide +kernel
theorem dLW_law_353 : decode cLW_law 353 = .ok (.iconst 0, 1) := by decide +kernel
theorem dLW_law_354 : decode cLW_law 354 = .ok (.ireturn, 1) := by decide +kernel
theorem dLW_law_355 : decode cLW_law 355 = .ok (.aload_n 1, 1) := by decide +kernel
theorem dLW_law_356 : decode cLW_law 356 = .ok (.invokevirtual 61, 3) := by decide +kernel
theorem dLW_law_359 : decode cLW_law 359 = .ok (.aload_n 2, 1) := by decide +kernel
theorem dLW_law_360 : decode cLW_law 360 = .ok (.invokevirtual 64, 3) := by decide +kernel
theorem dLW_law_363 : decode cLW_law 363 = .ok (.if_icmp .eq 183, 3) := by decide +kernel
theorem dLW_law_366 : decode cLW_law 366 = .ok (.iconst 0, 1) := by decide +kernel
theorem dLW_law_367 : decode cLW_law 367 = .ok (.ireturn, 1) := by decide +kernel
theorem dLW_law_368 : decode cLW_law 368 = .ok (.aload_n 1, 1) := by decide +kernel
theorem dLW_law_369 : decode cLW_law 369 = .ok (.aload_n 0, 1) := by decide +kernel
theorem dLW_law_370 : decode cLW_law 370 = .ok (.iload 4, 2) := by decide +kernel
theorem dLW_law_372 : decode cLW_law 372 = .ok (.iconst 1, 1) := by decide +kernel
theorem dLW_law_373 : decode cLW_law 373 = .ok (.iadd, 1) := by decide +kernel
theorem dLW_law_374 : decode cLW_law 374 = .ok (.iaload, 1) := by decide +kernel
theorem dLW_law_375 : decode cLW_law 375 = .ok (.invokevirtual 65, 3) := by decide +kernel
theorem dLW_law_378 : decode cLW_law 378 = .ok (.aload_n 2, 1) := by decide +kernel
theorem dLW_law_379 : decode cLW_law 379 = .ok (.aload_n 0, 1) := by decide +kernel
theorem dLW_law_380 : decode cLW_law 380 = .ok (.iload 4, 2) := by decide +kernel
theorem dLW_law_382 : decode cLW_law 382 = .ok (.iconst 1, 1) := by decide +kernel
theorem dLW_law_383 : decode cLW_law 383 = .ok (.iadd, 1) := by decide +kernel
theorem dLW_law_384 : decode cLW_law 384 = .ok (.iaload, 1) := by decide +kernel
theorem dLW_law_385 : decode cLW_law 385 = .ok (.invokevirtual 68, 3) := by decide +kernel
theorem dLW_law_388 : decode cLW_law 388 = .ok (.if_icmp .eq 158, 3) := by decide +kernel
theorem dLW_law_391 : decode cLW_law 391 = .ok (.iconst 0, 1) := by decide +kernel
theorem dLW_law_392 : decode cLW_law 392 = .ok (.ireturn, 1) := by decide +kernel
theorem dLW_law_393 : decode cLW_law 393 = .ok (.aload_n 1, 1) := by decide +kernel
theorem dLW_law_394 : decode cLW_law 394 = .ok (.aload_n 0, 1) := by decide +kernel
theorem dLW_law_395 : decode cLW_law 395 = .ok (.iload 4, 2) := by decide +kernel
theorem dLW_law_397 : decode cLW_law 397 = .ok (.iconst 1, 1) := by decide +kernel
theorem dLW_law_398 : decode cLW_law 398 = .ok (.iadd, 1) := by decide +kernel
theorem dLW_law_399 : decode cLW_law 399 = .ok (.iaload, 1) := by decide +kernel
theorem dLW_law_400 : decode cLW_law 400 = .ok (.aload_n 0, 1) := by decide +kernel
theorem dLW_law_401 : decode cLW_law 401 = .ok (.iload 4, 2) := by decide +kernel
theorem dLW_law_403 : decode cLW_law 403 = .ok (.iconst 2, 1) := by decide +kernel
theorem dLW_law_404 : decode cLW_law 404 = .ok (.iadd, 1) := by decide +kernel
theorem dLW_law_405 : decode cLW_law 405 = .ok (.iaload, 1) := by decide +kernel
theorem dLW_law_406 : decode cLW_law 406 = .ok (.invokevirtual 69, 3) := by decide +kernel
theorem dLW_law_409 : decode cLW_law 409 = .ok (.aload_n 2, 1) := by decide +kernel
theorem dLW_law_410 : decode cLW_law 410 = .ok (.aload_n 0, 1) := by decide +kernel
theorem dLW_law_411 : decode cLW_law 411 = .ok (.iload 4, 2) := by decide +kernel
theorem dLW_law_413 : decode cLW_law 413 = .ok (.iconst 1, 1) := by decide +kernel
theorem dLW_law_414 : decode cLW_law 414 = .ok (.iadd, 1) := by decide +kernel
theorem dLW_law_415 : decode cLW_law 415 = .ok (.iaload, 1) := by decide +kernel
theorem dLW_law_416 : decode cLW_law 416 = .ok (.aload_n 0, 1) := by decide +kernel
theorem dLW_law_417 : decode cLW_law 417 = .ok (.iload 4, 2) := by decide +kernel
theorem dLW_law_419 : decode cLW_law 419 = .ok (.iconst 2, 1) := by decide +kernel
theorem dLW_law_420 : decode cLW_law 420 = .ok (.iadd, 1) := by decide +kernel
theorem dLW_law_421 : decode cLW_law 421 = .ok (.iaload, 1) := by decide +kernel
theorem dLW_law_422 : decode cLW_law 422 = .ok (.invokevirtual 73, 3) := by decide +kernel
theorem dLW_law_425 : decode cLW_law 425 = .ok (.if_icmp .eq 121, 3) := by decide +kernel
theorem dLW_law_428 : decode cLW_law 428 = .ok (.iconst 0, 1) := by decide +kernel
theorem dLW_law_429 : decode cLW_law 429 = .ok (.ireturn, 1) := by decide +kernel
theorem dLW_law_430 : decode cLW_law 430 = .ok (.aload_n 1, 1) := by decide +kernel
theorem dLW_law_431 : decode cLW_law 431 = .ok (.aload_n 0, 1) := by decide +kernel
theorem dLW_law_432 : decode cLW_law 432 = .ok (.iload 4, 2) := by decide +kernel
theorem dLW_law_434 : decode cLW_law 434 = .ok (.iconst 1, 1) := by decide +kernel
theorem dLW_law_435 : decode cLW_law 435 = .ok (.iadd, 1) := by decide +kernel
theorem dLW_law_436 : decode cLW_law 436 = .ok (.iaload, 1) := by decide +kernel
theorem dLW_law_437 : decode cLW_law 437 = .ok (.invokevirtual 74, 3) := by decide +kernel
theorem dLW_law_440 : decode cLW_law 440 = .ok (.aload_n 2, 1) := by decide +kernel
theorem dLW_law_441 : decode cLW_law 441 = .ok (.aload_n 0, 1) := by decide +kernel
theorem dLW_law_442 : decode cLW_law 442 = .ok (.iload 4, 2) := by decide +kernel
theorem dLW_law_444 : decode cLW_law 444 = .ok (.iconst 1, 1) := by decide +kernel
theorem dLW_law_445 : decode cLW_law 445 = .ok (.iadd, 1) := by decide +kernel
theorem dLW_law_446 : decode cLW_law 446 = .ok (.iaload, 1) := by decide +kernel
theorem dLW_law_447 : decode cLW_law 447 = .ok (.invokevirtual 77, 3) := by decide +kernel
theorem dLW_law_450 : decode cLW_law 450 = .ok (.if_icmp .eq 96, 3) := by decide +kernel
theorem dLW_law_453 : decode cLW_law 453 = .ok (.iconst 0, 1) := by decide +kernel
theorem dLW_law_454 : decode cLW_law 454 = .ok (.ireturn, 1) := by decide +kernel
theorem dLW_law_455 : decode cLW_law 455 = .ok (.aload_n 1, 1) := by decide +kernel
theorem dLW_law_456 : decode cLW_law 456 = .ok (.aload_n 0, 1) := by decide +kernel
theorem dLW_law_457 : decode cLW_law 457 = .ok (.iload 4, 2) := by decide +kernel
theorem dLW_law_459 : decode cLW_law 459 = .ok (.iconst 1, 1) := by decide +kernel
theorem dLW_law_460 : decode cLW_law 460 = .ok (.iadd, 1) := by decide +kernel
theorem dLW_law_461 : decode cLW_law 461 = .ok (.iaload, 1) := by decide +kernel
theorem dLW_law_462 : decode cLW_law 462 = .ok (.invokevirtual 78, 3) := by decide +kernel
theorem dLW_law_465 : decode cLW_law 465 = .ok (.aload_n 2, 1) := by decide +kernel
theorem dLW_law_466 : decode cLW_law 466 = .ok (.aload_n 0, 1) := by decide +kernel
theorem dLW_law_467 : decode cLW_law 467 = .ok (.iload 4, 2) := by decide +kernel
theorem dLW_law_469 : decode cLW_law 469 = .ok (.iconst 1, 1) := by decide +kernel
theorem dLW_law_470 : decode cLW_law 470 = .ok (.iadd, 1) := by decide +kernel
theorem dLW_law_471 : decode cLW_law 471 = .ok (.iaload, 1) := by decide +kernel
theorem dLW_law_472 : decode cLW_law 472 = .ok (.invokevirtual 81, 3) := by decide +kernel
theorem dLW_law_475 : decode cLW_law 475 = .ok (.if_icmp .eq 71, 3) := by decide +kernel
theorem dLW_law_478 : decode cLW_law 478 = .ok (.iconst 0, 1) := by decide +kernel
theorem dLW_law_479 : decode cLW_law 479 = .ok (.ireturn, 1) := by decide +kernel
theorem dLW_law_480 : decode cLW_law 480 = .ok (.aload_n 1, 1) := by decide +kernel
theorem dLW_law_481 : decode cLW_law 481 = .ok (.invokevirtual 82, 3) := by decide +kernel
theorem dLW_law_484 : decode cLW_law 484 = .ok (.aload_n 2, 1) := by decide +kernel
theorem dLW_law_485 : decode cLW_law 485 = .ok (.invokevirtual 85, 3) := by decide +kernel
theorem dLW_law_488 : decode cLW_law 488 = .ok (.if_icmp .eq 58, 3) := by decide +kernel
theorem dLW_law_491 : decode cLW_law 491 = .ok (.iconst 0, 1) := by decide +kernel
theorem dLW_law_492 : decode cLW_law 492 = .ok (.ireturn, 1) := by decide +kernel
theorem dLW_law_493 : decode cLW_law 493 = .ok (.aload_n 1, 1) := by decide +kernel
theorem dLW_law_494 : decode cLW_law 494 = .ok (.aload_n 0, 1) := by decide +kernel
theorem dLW_law_495 : decode cLW_law 495 = .ok (.iload 4, 2) := by decide +kernel
theorem dLW_law_497 : decode cLW_law 497 = .ok (.iconst 1, 1) := by decide +kernel
theorem dLW_law_498 : decode cLW_law 498 = .ok (.iadd, 1) := by decide +kernel
theorem dLW_law_499 : decode cLW_law 499 = .ok (.iaload, 1) := by decide +kernel
theorem dLW_law_500 : decode cLW_law 500 = .ok (.aload_n 0, 1) := by decide +kernel
theorem dLW_law_501 : decode cLW_law 501 = .ok (.iload 4, 2) := by decide +kernel
theorem dLW_law_503 : decode cLW_law 503 = .ok (.iconst 2, 1) := by decide +kernel
theorem dLW_law_504 : decode cLW_law 504 = .ok (.iadd, 1) := by decide +kernel
theorem dLW_law_505 : decode cLW_law 505 = .ok (.iaload, 1) := by decide +kernel
theorem dLW_law_506 : decode cLW_law 506 = .ok (.ifCond .eq 7, 3) := by decide +kernel
theorem dLW_law_509 : decode cLW_law 509 = .ok (.iconst 1, 1) := by decide +kernel
theorem dLW_law_510 : decode cLW_law 510 = .ok (.goto 4, 3) := by decide +kernel
theorem dLW_law_513 : decode cLW_law 513 = .ok (.iconst 0, 1) := by decide +kernel
theorem dLW_law_514 : decode cLW_law 514 = .ok (.invokevirtual 86, 3) := by decide +kernel
theorem dLW_law_517 : decode cLW_law 517 = .ok (.aload_n 2, 1) := by decide +kernel
theorem dLW_law_518 : decode cLW_law 518 = .ok (.aload_n 0, 1) := by decide +kernel
theorem dLW_law_519 : decode cLW_law 519 = .ok (.iload 4, 2) := by decide +kernel
theorem dLW_law_521 : decode cLW_law 521 = .ok (.iconst 1, 1) := by decide +kernel
theorem dLW_law_522 : decode cLW_law 522 = .ok (.iadd, 1) := by decide +kernel
theorem dLW_law_523 : decode cLW_law 523 = .ok (.iaload, 1) := by decide +kernel
theorem dLW_law_524 : decode cLW_law 524 = .ok (.aload_n 0, 1) := by decide +kernel
theorem dLW_law_525 : decode cLW_law 525 = .ok (.iload 4, 2) := by decide +kernel
theorem dLW_law_527 : decode cLW_law 527 = .ok (.iconst 2, 1) := by decide +kernel
theorem dLW_law_528 : decode cLW_law 528 = .ok (.iadd, 1) := by decide +kernel
theorem dLW_law_529 : decode cLW_law 529 = .ok (.iaload, 1) := by decide +kernel
theorem dLW_law_530 : decode cLW_law 530 = .ok (.ifCond .eq 7, 3) := by decide +kernel
theorem dLW_law_533 : decode cLW_law 533 = .ok (.iconst 1, 1) := by decide +kernel
theorem dLW_law_534 : decode cLW_law 534 = .ok (.goto 4, 3) := by decide +kernel
theorem dLW_law_537 : decode cLW_law 537 = .ok (.iconst 0, 1) := by decide +kernel
theorem dLW_law_538 : decode cLW_law 538 = .ok (.invokevirtual 90, 3) := by decide +kernel
theorem dLW_law_541 : decode cLW_law 541 = .ok (.if_icmp .eq 5, 3) := by decide +kernel
theorem dLW_law_544 : decode cLW_law 544 = .ok (.iconst 0, 1) := by decide +kernel
theorem dLW_law_545 : decode cLW_law 545 = .ok (.ireturn, 1) := by decide +kernel
theorem dLW_law_546 : decode cLW_law 546 = .ok (.iinc 4 5, 3) := by decide +kernel
theorem dLW_law_549 : decode cLW_law 549 = .ok (.goto (-526), 3) := by decide +kernel
theorem dLW_law_552 : decode cLW_law 552 = .ok (.iconst 1, 1) := by decide +kernel
theorem dLW_law_553 : decode cLW_law 553 = .ok (.ireturn, 1) := by decide +kernel
set_option maxHeartbeats 16000000 in
set_option maxRecDepth 100000 in
theorem whole_start {p : Program} {e : Env} {s : State} {m : MethodId} {below : List Frame} {meth : Method} {c : Code} (l : Launch) (hfl : l.flags = pinnedFlags ++ [noTraceFlag]) {b L : Nat} {xs : Nat → Int32} (hL : L ≤ 5) (C0 : lw_At p s m meth c b L xs) : W p l e room_1 s m #[Value.ref b] below meth c s.heap [] 0 0 (lw_Z below #[Value.ref b] s) (entryFrame m ([Value.ref b] : List Value).toArray 7) := by
  obtain ⟨hx, hb, hr, hml, hown, hts0, hX, hbl, hlk, hgv⟩ := C0
  have hts : ∀ w ∈ WS, w.before #[Value.ref b] s = true := fun w hw => hts0 w (List.mem_filter.mp hw).1
  obtain ⟨D, tc, hK⟩ := K_of hts
  have X : Cx p s m #[Value.ref b] c cLW_law 7 R_LW D tc := ⟨hx, hb, hml, hown, hts, hK⟩
  have hg := flat_of_before _ hgv
  have nc1 : va_Nc "java/lang/IllegalArgumentException" "java/lang/IllegalStateException" s := va_Nc.of (hg _ (by decide +kernel))
  have nc2 : va_Nc "java/lang/IllegalStateException" "java/lang/IndexOutOfBoundsException" s := va_Nc.of (hg _ (by decide +kernel))
  have hTH : TH s := ⟨hts0 (.laysStatic "java/lang/Throwable" "UNASSIGNED_STACK" "[Ljava/lang/StackTraceElement;") (List.mem_append_right _ (by decide +kernel)), hts0 (.laysStatic "java/lang/Throwable" "SUPPRESSED_SENTINEL" "Ljava/util/List;") (List.mem_append_right _ (by decide +kernel)), hg (.isRef (.static "java/lang/Throwable" "UNASSIGNED_STACK" "[Ljava/lang/StackTraceElement;")) (by decide +kernel), hg (.isRef (.static "java/lang/Throwable" "SUPPRESSED_SENTINEL" "Ljava/util/List;")) (by decide +kernel)⟩
  have hbA : ¬ (fun q => s.heap.size ≤ q) b := Nat.not_le.mpr hbl
  have hA : ∀ q, s.heap.size ≤ q → (fun q => s.heap.size ≤ q) q := fun q h => h
  have hDD : ∀ n, ∀ E' : Nat → va_E, va_D (fun q => s.heap.size ≤ q) (wW n (fun k => s.heap.size + k) E') := fun n E' => seqL n E'
  have hS : va_S (fun q => s.heap.size ≤ q) s.heap s.heap [] := va_S.rf
  have hl := lv_entry [Value.ref b] (n := 7) (Nat.le_of_ble_eq_true rfl)
  rw [lg_entry_eq]
  generalize (lg_sl [Value.ref b] ++ List.replicate (7 - (lg_sl [Value.ref b]).length) Slot.unset).toArray = ls at hl ⊢
  have hl : lv_has ls 7 [(0, .ref b)] := hl
  -- the end of the loop, from any state
  have fin : ∀ (H : Heap) (locs : List Loc) (ls : Array Slot) (k n : Nat) (i : Int32), k ≤ 600002 → n ≤ 7302232 → va_S (fun q => s.heap.size ≤ q) s.heap H locs → lv_has ls 7 [(4, .int i), (0, .ref b)] → (Int32.ofNat L - 5 < i) → W p l e room_1 s m #[Value.ref b] below meth c H locs k n (lw_Z below #[Value.ref b] s) (F0 m 23 ls []) := by
    intro H locs ls k n i hk hn hS hl hi
    refine lv_iload hx hb dLW_law_23 (lv_at hl 0 rfl) ?_
    refine lv_aload_n hx hb dLW_law_25 rfl (lv_at hl 1 rfl) ?_
    refine va_slen hx hb hX hbl hbA hS dLW_law_26 ?_
    refine lv_iconst (v := 5) hx hb dLW_law_27 (by decide) ?_
    refine lv_isub hx hb dLW_law_28 ?_
    refine lv_icmp_gt (tgt := 552) hx hb dLW_law_29 rfl (fun _ => ?_) (fun q => absurd hi q)
    refine lv_iconst (v := 1) hx hb dLW_law_552 (by decide) ?_
    refine va_forget (fun q hq => hS.2.2 q hq) ?_
    refine W.widen hk hn ?_
    exact lw_ret hx hb hr hlk dLW_law_553
  have tail : ∀ (H : Heap) (locs : List Loc) (ls : Array Slot) (k n : Nat), L = 5 → k ≤ 600002 → n ≤ 7302232 → va_S (fun q => s.heap.size ≤ q) s.heap H locs → lv_has ls 7 [(4, .int 0), (0, .ref b)] → W p l e room_1 s m #[Value.ref b] below meth c H locs k n (lw_Z below #[Value.ref b] s) (F0 m 546 ls []) := by
    intro H locs ls k n h5 hk hn hS hl
    refine lv_iinc (k := 0) (v := 5) hx hb dLW_law_546 hl rfl (by decide) (by decide) rfl (fun ls hl => ?_)
    refine lv_goto (tgt := 23) hx hb dLW_law_549 rfl ?_
    exact fin H locs ls k n 5 hk hn hS hl (by rw [h5]; decide)
  -- the objects
  have hP : va_P D vwCl (wW 0 (fun k => s.heap.size + k) (fun _ => .inr (0, []))) s.heap := fun k q hk => (Nat.not_lt_zero k (wW_inv hk).1).elim
  refine q_newO0 (T := T_RW) (ci := 6) (fs := [.null, .null, .null, .null, .null, .null, .null, .int 0, .int 0]) ty_RW X in_RW tok_RW w_20 w_21 w_1 rfl (by decide) hP hS (fun j hj => rfl) (Nat.le_add_right _ _) (by decide) (by decide) dLW_law_0 (fun H hP hS => ?_)
  refine lv_dup hx hb dLW_law_3 rfl ?_
  have e0 : va_up (fun _ => .inr (0, [])) 0 (.inr (6, [.null, .null, .null, .null, .null, .null, .null, .int 0, .int 0])) 0 = (.inr (6, [.null, .null, .null, .null, .null, .null, .null, .int 0, .int 0]) : va_E) := va_up_self _ _ _
  refine x_n0 (b := 0) (fun hz => x_runI (b := s.heap.size + 0) (As := []) (rest := [.ref (s.heap.size + 0)]) X (c_RW_init l D tc (fun k => s.heap.size + (0 + k)) _ e0) rfl rfl (by decide) (by decide) w_24 w_1 w_22 w_23 rfl ry_RW_init (ctN_pre0 (b := 0) X rfl hP (fun j hj => rfl) hz) ctN_blind hl.1 (Nat.le_of_ble_eq_true rfl) dLW_law_4 ⟨by decide, by decide⟩) rfl hP hS (fun j hj => rfl) (fun n hn E' => hDD n E') (fun E1 H locs q1 hP hS => ?_)
  have hP : va_P D vwCl (wW 66 (fun k => s.heap.size + k) (wU (1 + 65) (fun k => 0 + k) (va_up (fun _ => .inr (0, [])) 0 (.inr (6, [.null, .null, .null, .null, .null, .null, .null, .int 0, .int 0]))) E1)) H := hP
  generalize g1 : wU (1 + 65) (fun k => 0 + k) (va_up (fun _ => .inr (0, [])) 0 (.inr (6, [.null, .null, .null, .null, .null, .null, .null, .int 0, .int 0]))) E1 = F1 at hP
  have r1 : RWf tc (fun k => s.heap.size + k) F1 := by
    have h : RWf tc (fun k => s.heap.size + (0 + k)) E1 := q1
    simp only [Nat.zero_add] at h
    exact h.cong (fun k hk => by rw [← g1]; have := wU_own (m := 1 + 65) (b := 0) (F := va_up (fun _ => .inr (0, [])) 0 (.inr (6, [.null, .null, .null, .null, .null, .null, .null, .int 0, .int 0]))) (E1 := E1) k (by omega); rwa [Nat.zero_add] at this)
  refine lv_astore_n hx hb dLW_law_7 rfl hl (by decide) rfl (fun ls hl => ?_)
  have hl : lv_has ls 7 [(1, .ref (s.heap.size + 0)), (0, .ref b)] := hl
  refine q_newO0 (T := T_MD) (ci := 7) (fs := [.int 0, .int 0, .int 0, .null, .null, .null, .null, .null, .null, .null, .null, .null, .int 0, .null, .null, .null, .null, .null, .null, .null]) ty_MD X in_MD tok_MD w_489 w_490 w_9 rfl (by decide) hP hS (fun j hj => rfl) (Nat.le_add_right _ _) (by decide) (by decide) dLW_law_8 (fun H hP hS => ?_)
  refine lv_dup hx hb dLW_law_11 rfl ?_
  have e1 : va_up F1 66 (.inr (7, [.int 0, .int 0, .int 0, .null, .null, .null, .null, .null, .null, .null, .null, .null, .int 0, .null, .null, .null, .null, .null, .null, .null])) (66 + 0) = (.inr (7, [.int 0, .int 0, .int 0, .null, .null, .null, .null, .null, .null, .null, .null, .null, .int 0, .null, .null, .null, .null, .null, .null, .null]) : va_E) := va_up_self _ _ _
  refine x_n0 (b := 66) (fun hz => x_runI (b := s.heap.size + 66) (As := []) (rest := [.ref (s.heap.size + 66)]) X (c_MD_init l D tc (fun k => s.heap.size + (66 + k)) (fun k => va_up F1 66 (.inr (7, [.int 0, .int 0, .int 0, .null, .null, .null, .null, .null, .null, .null, .null, .null, .int 0, .null, .null, .null, .null, .null, .null, .null])) (66 + k)) e1) rfl rfl (by decide) (by decide) w_493 w_9 w_491 w_492 rfl ry_MD_init (ctN_pre0 (b := 66) X rfl hP (fun j hj => rfl) hz) ctN_blind hl.1 (Nat.le_of_ble_eq_true rfl) dLW_law_12 ⟨by decide, by decide⟩) rfl hP hS (fun j hj => rfl) (fun n hn E' => hDD n E') (fun E2 H locs q2 hP hS => ?_)
  have hP : va_P D vwCl (wW 83 (fun k => s.heap.size + k) (wU (1 + 16) (fun k => 66 + k) (va_up F1 66 (.inr (7, [.int 0, .int 0, .int 0, .null, .null, .null, .null, .null, .null, .null, .null, .null, .int 0, .null, .null, .null, .null, .null, .null, .null]))) E2)) H := hP
  generalize g2 : wU (1 + 16) (fun k => 66 + k) (va_up F1 66 (.inr (7, [.int 0, .int 0, .int 0, .null, .null, .null, .null, .null, .null, .null, .null, .null, .int 0, .null, .null, .null, .null, .null, .null, .null]))) E2 = F2 at hP
  have r2 : RWf tc (fun k => s.heap.size + k) F2 := r1.cong (fun k hk => by rw [← g2, wU_far (by omega), va_up_ne _ _ (by omega)])
  have s2 : MDf tc (fun k => s.heap.size + (66 + k)) (fun k => F2 (66 + k)) 0 := MDf.cong q2 (fun k hk => by show F2 (66 + k) = E2 k; rw [← g2]; exact wU_own k (by omega))
  refine lv_astore_n hx hb dLW_law_15 rfl hl (by decide) rfl (fun ls hl => ?_)
  have hl : lv_has ls 7 [(2, .ref (s.heap.size + 66)), (1, .ref (s.heap.size + 0)), (0, .ref b)] := hl
  refine lv_iconst (v := 1) hx hb dLW_law_16 (by decide) ?_
  refine q_newJ0 1 X w_540 hP hS (fun j hj => rfl) (Nat.le_add_right _ _) rfl (by decide) (by decide) (by decide) dLW_law_17 (fun H hP hS => ?_)
  have hP : va_P D vwCl (wW 84 (fun k => s.heap.size + k) (va_up F2 83 (.inl (tc 1, 1, .inr (.inl (fun _ => 0)))))) H := hP
  generalize g3 : va_up F2 83 (.inl (tc 1, 1, .inr (.inl (fun _ => 0)))) = F at hP
  have hRF : RWf tc (fun k => s.heap.size + k) F := r2.cong (fun k hk => by rw [← g3, va_up_ne _ _ (by omega)])
  have hMF : MDf tc (fun k => s.heap.size + (66 + k)) (fun k => F (66 + k)) 0 := s2.cong (fun k hk => by show F (66 + k) = F2 (66 + k); rw [← g3, va_up_ne _ _ (by omega)])
  have hO : F 83 = .inl (tc 1, 1, .inr (.inl (fun _ => 0))) := by rw [← g3]; exact va_up_self _ _ _
  refine lv_astore_n hx hb dLW_law_19 rfl hl (by decide) rfl (fun ls hl => ?_)
  refine lv_iconst (v := 0) hx hb dLW_law_20 (by decide) ?_
  refine lv_istore hx hb dLW_law_21 hl (by decide) rfl (fun ls hl => ?_)
  refine W.widen (k := 84) (n := 3495) (by decide) (by decide) ?_
  have hl : lv_has ls 7 [(4, .int 0), (3, .ref (s.heap.size + 83)), (2, .ref (s.heap.size + 66)), (1, .ref (s.heap.size + 0)), (0, .ref b)] := hl
  clear g1 g2 g3 r1 r2 s2 q1 q2 e0 e1
  by_cases h5 : L = 5
  · subst h5
    refine lv_iload hx hb dLW_law_23 (lv_at hl 0 rfl) ?_
    refine lv_aload_n hx hb dLW_law_25 rfl (lv_at hl 4 rfl) ?_
    refine va_slen hx hb hX hbl hbA hS dLW_law_26 ?_
    refine lv_iconst (v := 5) hx hb dLW_law_27 (by decide) ?_
    refine lv_isub hx hb dLW_law_28 ?_
    refine lv_icmp_gt (tgt := 552) hx hb dLW_law_29 rfl (fun h => absurd h (by decide)) (fun _ => ?_)
    refine lv_aload_n hx hb dLW_law_32 rfl (lv_at hl 4 rfl) ?_
    refine lv_iload hx hb dLW_law_33 (lv_at hl 0 rfl) ?_
    refine va_sld hx hb hX hbl hbA hS (by unfold vp_in; decide) dLW_law_35 ?_
    rw [show (0 : Int32).toNatClampNeg = 0 from by decide]
    refine lv_bipush (v := 15) hx hb dLW_law_36 (by decide) ?_
    refine lv_iand hx hb dLW_law_38 ?_
    obtain ⟨j, hj, ej⟩ := sw16 (xs 0)
    rw [ej]
    clear ej
    have hD := hDD 84 F
    have hR0 : F 0 = _ := hRF.1.1
    rcases (by omega : j = 0 ∨ j = 1 ∨ j = 2 ∨ j = 3 ∨ j = 4 ∨ j = 5 ∨ j = 6 ∨ j = 7 ∨ j = 8 ∨ j = 9 ∨ j = 10 ∨ j = 11 ∨ j = 12 ∨ j = 13 ∨ j = 14 ∨ j = 15) with rfl | rfl | rfl | rfl | rfl | rfl | rfl | rfl | rfl | rfl | rfl | rfl | rfl | rfl | rfl | rfl
    · refine lv_tableIn (tgt := 104) hx hb dLW_law_39 (by decide) (by decide) rfl rfl ?_
      refine lv_aload_n hx hb dLW_law_104 rfl (lv_at hl 3 rfl) ?_
      refine lv_aload_n hx hb dLW_law_105 rfl (lv_at hl 4 rfl) ?_
      refine lv_iload hx hb dLW_law_106 (lv_at hl 0 rfl) ?_
      refine lv_iconst (v := 1) hx hb dLW_law_108 (by decide) ?_
      refine lv_iadd hx hb dLW_law_109 ?_
      rw [show ((0 : Int32) + 1) = 1 from by decide]
      refine va_sld hx hb hX hbl hbA hS (by unfold vp_in; decide) dLW_law_110 ?_
      rw [show (1 : Int32).toNatClampNeg = 1 from by decide]
      refine lv_aload_n hx hb dLW_law_111 rfl (lv_at hl 4 rfl) ?_
      refine lv_iload hx hb dLW_law_112 (lv_at hl 0 rfl) ?_
      refine lv_iconst (v := 2) hx hb dLW_law_114 (by decide) ?_
      refine lv_iadd hx hb dLW_law_115 ?_
      rw [show ((0 : Int32) + 2) = 2 from by decide]
      refine va_sld hx hb hX hbl hbA hS (by unfold vp_in; decide) dLW_law_116 ?_
      rw [show (2 : Int32).toNatClampNeg = 2 from by decide]
      refine lv_aload_n hx hb dLW_law_117 rfl (lv_at hl 4 rfl) ?_
      refine lv_iload hx hb dLW_law_118 (lv_at hl 0 rfl) ?_
      refine lv_iconst (v := 3) hx hb dLW_law_120 (by decide) ?_
      refine lv_iadd hx hb dLW_law_121 ?_
      rw [show ((0 : Int32) + 3) = 3 from by decide]
      refine va_sld hx hb hX hbl hbA hS (by unfold vp_in; decide) dLW_law_122 ?_
      rw [show (3 : Int32).toNatClampNeg = 3 from by decide]
      refine lv_aload_n hx hb dLW_law_123 rfl (lv_at hl 4 rfl) ?_
      refine lv_iload hx hb dLW_law_124 (lv_at hl 0 rfl) ?_
      refine lv_iconst (v := 4) hx hb dLW_law_126 (by decide) ?_
      refine lv_iadd hx hb dLW_law_127 ?_
      rw [show ((0 : Int32) + 4) = 4 from by decide]
      refine va_sld hx hb hX hbl hbA hS (by unfold vp_in; decide) dLW_law_128 ?_
      rw [show (4 : Int32).toNatClampNeg = 4 from by decide]
      obtain ⟨fo, fa, fb, hpp⟩ := pick3 hRF.2.1
      refine x_i (f := fun k => 0 + k) (x_runV (C := R_RW) (b := s.heap.size + 0) (As := [.int (xs 1), .int (xs 2), .int (xs 3), .int (xs 4)]) (rest := []) X (c_RW_add l D tc (fun k => s.heap.size + (0 + k)) (fun k => F (0 + k)) 0 0 (fun _ => 0) fo fa fb (xs 1) (xs 2) (xs 3) (xs 4) (by simpa only [Nat.zero_add] using hRF.1) (by simpa only [Nat.zero_add] using hpp) (fun _ _ => Nat.zero_le _)) rfl rfl (by decide) (by decide) w_154 w_1 w_151 w_152 w_153 ry_RW_add (x_recv X hP (by decide) hR0 rfl) (ct_pre X hP hD (fr_lt 66 84 0 (by omega)) (fr_inj 66 0)) ct_blind hl.1 (Nat.le_of_ble_eq_true rfl) dLW_law_129 ⟨by decide, by decide⟩) hD hP hS (fr_lt 66 84 0 (by omega)) (fr_inj 66 0) (fun o E1 h => ⟨_, h.1⟩) (fun r1 E1 H locs k1 hD hP hS => ?_)
      have er := ret_i k1.1
      subst er
      generalize g : wU 66 (fun k => 0 + k) F E1 = F1 at hD hP
      have hMF : MDf tc (fun k => s.heap.size + (66 + k)) (fun k => F1 (66 + k)) 0 := hMF.cong (fun k hk => by show F1 (66 + k) = F (66 + k); rw [← g]; exact wU_far (Or.inr (by omega)))
      clear g k1 hRF hR0 hpp
      refine lv_aload_n hx hb dLW_law_132 rfl (lv_at hl 2 rfl) ?_
      refine lv_aload_n hx hb dLW_law_133 rfl (lv_at hl 4 rfl) ?_
      refine lv_iload hx hb dLW_law_134 (lv_at hl 0 rfl) ?_
      refine lv_iconst (v := 1) hx hb dLW_law_136 (by decide) ?_
      refine lv_iadd hx hb dLW_law_137 ?_
      rw [show ((0 : Int32) + 1) = 1 from by decide]
      refine va_sld hx hb hX hbl hbA hS (by unfold vp_in; decide) dLW_law_138 ?_
      rw [show (1 : Int32).toNatClampNeg = 1 from by decide]
      refine lv_aload_n hx hb dLW_law_139 rfl (lv_at hl 4 rfl) ?_
      refine lv_iload hx hb dLW_law_140 (lv_at hl 0 rfl) ?_
      refine lv_iconst (v := 2) hx hb dLW_law_142 (by decide) ?_
      refine lv_iadd hx hb dLW_law_143 ?_
      rw [show ((0 : Int32) + 2) = 2 from by decide]
      refine va_sld hx hb hX hbl hbA hS (by unfold vp_in; decide) dLW_law_144 ?_
      rw [show (2 : Int32).toNatClampNeg = 2 from by decide]
      refine lv_aload_n hx hb dLW_law_145 rfl (lv_at hl 4 rfl) ?_
      refine lv_iload hx hb dLW_law_146 (lv_at hl 0 rfl) ?_
      refine lv_iconst (v := 3) hx hb dLW_law_148 (by decide) ?_
      refine lv_iadd hx hb dLW_law_149 ?_
      rw [show ((0 : Int32) + 3) = 3 from by decide]
      refine va_sld hx hb hX hbl hbA hS (by unfold vp_in; decide) dLW_law_150 ?_
      rw [show (3 : Int32).toNatClampNeg = 3 from by decide]
      refine lv_aload_n hx hb dLW_law_151 rfl (lv_at hl 4 rfl) ?_
      refine lv_iload hx hb dLW_law_152 (lv_at hl 0 rfl) ?_
      refine lv_iconst (v := 4) hx hb dLW_law_154 (by decide) ?_
      refine lv_iadd hx hb dLW_law_155 ?_
      rw [show ((0 : Int32) + 4) = 4 from by decide]
      refine va_sld hx hb hX hbl hbA hS (by unfold vp_in; decide) dLW_law_156 ?_
      rw [show (4 : Int32).toNatClampNeg = 4 from by decide]
      obtain ⟨ic, MA, MJ, hM, z1, z2, z3, z4, z5⟩ := hMF
      have hM0 : F1 66 = _ := hM.1
      refine x_i (f := fun k => 66 + k) (x_runV (C := R_MD) (b := s.heap.size + 66) (As := [.int (xs 1), .int (xs 2), .int (xs 3), .int (xs 4)]) (rest := [.int (if addOk 0 (fun _ => 0) (xs 1) (xs 2) (xs 3) = true then nI 0 else -1)]) X (c_MD_add l D tc (fun k => s.heap.size + (66 + k)) (fun k => F1 (66 + k)) _ _ _ _ _ _ (fun _ => 0) (xs 1) (xs 2) (xs 3) (xs 4) hM z1 (fun _ _ => Nat.zero_le _)) rfl rfl (by decide) (by decide) w_548 w_9 w_545 w_546 w_547 ry_MD_add (x_recv X hP (by decide) hM0 rfl) (ct_pre X hP hD (fr_lt 17 84 66 (by omega)) (fr_inj 17 66)) ct_blind hl.1 (Nat.le_of_ble_eq_true rfl) dLW_law_157 ⟨by decide, by decide⟩) hD hP hS (fr_lt 17 84 66 (by omega)) (fr_inj 17 66) (fun o E1 h => ⟨_, h.1⟩) (fun r2 E2 H locs k2 hD hP hS => ?_)
      have er := ret_i k2.1
      subst er
      refine lv_icmp_eq (tgt := 546) hx hb dLW_law_160 rfl (fun _ => ?_) (fun h => absurd rfl h)
      exact tail H _ ls _ _ rfl (by decide) (by decide) hS (lv_sub hl [0, 4] rfl)
    · refine lv_tableIn (tgt := 165) hx hb dLW_law_39 (by decide) (by decide) rfl rfl ?_
      refine lv_aload_n hx hb dLW_law_165 rfl (lv_at hl 3 rfl) ?_
      refine x_v (f := fun k => 0 + k) (x_runV (C := R_RW) (b := s.heap.size + 0) (As := []) (rest := []) X (c_RW_clear l D tc (fun k => s.heap.size + (0 + k)) (fun k => F (0 + k)) 0 0 (by simpa only [Nat.zero_add] using hRF.x)) rfl rfl (by decide) (by decide) w_175 w_1 w_172 w_173 w_174 ry_RW_clear (x_recv X hP (by decide) hR0 rfl) (ct_pre X hP hD (fr_lt 66 84 0 (by omega)) (fr_inj 66 0)) ct_blind hl.1 (Nat.le_of_ble_eq_true rfl) dLW_law_166 ⟨by decide, by decide⟩) hD hP hS (fr_lt 66 84 0 (by omega)) (fr_inj 66 0) (fun o E1 h => h.1) (fun E1 H locs k1 hD hP hS => ?_)
      generalize g : wU 66 (fun k => 0 + k) F E1 = F1 at hD hP
      have hMF : MDf tc (fun k => s.heap.size + (66 + k)) (fun k => F1 (66 + k)) 0 := hMF.cong (fun k hk => by show F1 (66 + k) = F (66 + k); rw [← g]; exact wU_far (Or.inr (by omega)))
      refine lv_aload_n hx hb dLW_law_169 rfl (lv_at hl 2 rfl) ?_
      obtain ⟨ic, MA, MJ, hM, z1, z2, z3, z4, z5⟩ := hMF
      have hM0 : F1 66 = _ := hM.1
      refine x_v (f := fun k => 66 + k) (x_runV (C := R_MD) (b := s.heap.size + 66) (As := []) (rest := []) X (c_MD_clear l D tc (fun k => s.heap.size + (66 + k)) (fun k => F1 (66 + k)) _ _ _ _ _ _ hM) rfl rfl (by decide) (by decide) w_498 w_9 w_555 w_496 w_497 ry_MD_clear (x_recv X hP (by decide) hM0 rfl) (ct_pre X hP hD (fr_lt 17 84 66 (by omega)) (fr_inj 17 66)) ct_blind hl.1 (Nat.le_of_ble_eq_true rfl) dLW_law_170 ⟨by decide, by decide⟩) hD hP hS (fr_lt 17 84 66 (by omega)) (fr_inj 17 66) (fun o E1 h => h.1) (fun E2 H locs k2 hD hP hS => ?_)
      refine lv_goto (tgt := 546) hx hb dLW_law_173 rfl ?_
      exact tail H _ ls _ _ rfl (by decide) (by decide) hS (lv_sub hl [0, 4] rfl)
    · refine lv_tableIn (tgt := 176) hx hb dLW_law_39 (by decide) (by decide) rfl rfl ?_
      refine lv_aload_n hx hb dLW_law_176 rfl (lv_at hl 3 rfl) ?_
      refine lv_aload_n hx hb dLW_law_177 rfl (lv_at hl 4 rfl) ?_
      refine lv_iload hx hb dLW_law_178 (lv_at hl 0 rfl) ?_
      refine lv_iconst (v := 1) hx hb dLW_law_180 (by decide) ?_
      refine lv_iadd hx hb dLW_law_181 ?_
      rw [show ((0 : Int32) + 1) = 1 from by decide]
      refine va_sld hx hb hX hbl hbA hS (by unfold vp_in; decide) dLW_law_182 ?_
      rw [show (1 : Int32).toNatClampNeg = 1 from by decide]
      refine lv_if_eq (tgt := 190) hx hb dLW_law_183 rfl (fun hc => ?_) (fun hc => ?_)
      · skip
        refine lv_iconst (v := 0) hx hb dLW_law_190 (by decide) ?_
        refine lv_aload_n hx hb dLW_law_191 rfl (lv_at hl 1 rfl) ?_
        refine W.sized (n_low0 hP hS (fun j hj => rfl)) (fun hz => ?_)
        refine x_iT (f := f67) (x_runSW (As := [.ref (s.heap.size + 0), .int 0, .ref (s.heap.size + 83)]) (rest := []) X (c1_LW_start l hfl D tc (fun k => s.heap.size + f67 k) (fun k => F (f67 k)) 0 (fun _ => 0) (s.heap.size + 84) hRF.at67 hO) rfl rfl (by decide) (by decide) w_271 w_0 w_269 w_270 ry_LW_start (ctT_pre (fun u U a h => va_Nc.moved a h) nc1 hTH (fun q hq => hS.2.1 q hq (Nat.not_le.mpr hq)) hz X hP hD f67_lt f67_inj) (ctT_blind (fun u U a h => va_Nc.moved a h)) hl.1 (Nat.le_of_ble_eq_true rfl) dLW_law_192 ⟨by decide, by decide⟩) hz hA hD hP hS f67_lt f67_inj (fun H locs hD hP hS => ?_)
        refine lv_istore hx hb dLW_law_195 hl (by decide) rfl (fun ls hl => ?_)
        have hl : lv_has ls 7 [(5, .int 2), (4, .int 0), (3, .ref (s.heap.size + 83)), (2, .ref (s.heap.size + 66)), (1, .ref (s.heap.size + 0)), (0, .ref b)] := hl
        refine lv_aload_n hx hb dLW_law_197 rfl (lv_at hl 3 rfl) ?_
        refine lv_aload_n hx hb dLW_law_198 rfl (lv_at hl 5 rfl) ?_
        refine lv_iload hx hb dLW_law_199 (lv_at hl 1 rfl) ?_
        refine lv_iconst (v := 1) hx hb dLW_law_201 (by decide) ?_
        refine lv_iadd hx hb dLW_law_202 ?_
        rw [show ((0 : Int32) + 1) = 1 from by decide]
        refine va_sld hx hb hX hbl hbA hS (by unfold vp_in; decide) dLW_law_203 ?_
        rw [show (1 : Int32).toNatClampNeg = 1 from by decide]
        refine lv_if_eq (tgt := 211) hx hb dLW_law_204 rfl (fun _ => ?_) (fun h => absurd hc h)
        refine lv_iconst (v := 0) hx hb dLW_law_211 (by decide) ?_
        obtain ⟨ic, MA, MJ, hM, z1, z2, z3, z4, z5⟩ := hMF
        have hM0 : F 66 = _ := hM.1
        refine x_i (f := fun k => 66 + k) (x_runV (C := R_MD) (b := s.heap.size + 66) (As := [.int 0]) (rest := []) X (c1_MD_start l D tc (fun k => s.heap.size + (66 + k)) (fun k => F (66 + k)) _ _ _ _ 0 hM z1) rfl rfl (by decide) (by decide) w_559 w_9 w_556 w_557 w_558 ry_MD_start (x_recv X hP (by decide) hM0 rfl) (ct_pre X hP hD (fr_lt 17 84 66 (by omega)) (fr_inj 17 66)) ct_blind hl.1 (Nat.le_of_ble_eq_true rfl) dLW_law_212 ⟨by decide, by decide⟩) hD hP hS (fr_lt 17 84 66 (by omega)) (fr_inj 17 66) (fun o E1 h => ⟨_, h.1⟩) (fun r2 E2 H locs k2 hD hP hS => ?_)
        have er := ret_i k2.1
        subst er
        refine lv_istore hx hb dLW_law_215 hl (by decide) rfl (fun ls hl => ?_)
        have hl : lv_has ls 7 [(6, .int 0), (5, .int 2), (4, .int 0), (3, .ref (s.heap.size + 83)), (2, .ref (s.heap.size + 66)), (1, .ref (s.heap.size + 0)), (0, .ref b)] := hl
        generalize g : wU 17 (fun k => 66 + k) F E2 = F2 at hD hP
        have hM2 : isMD tc (fun k => s.heap.size + (66 + k)) (fun k => F2 (66 + k)) 2 0 ic 0 MA MJ := k2.2.cong (fun k hk => by show F2 (66 + k) = E2 k; rw [← g]; exact wU_own k hk)
        have hM0 : F2 66 = _ := hM2.1
        refine lv_aload_n hx hb dLW_law_217 rfl (lv_at hl 4 rfl) ?_
        refine x_iE (f := fun k => 66 + k) (x_runV (C := R_MD) (b := s.heap.size + 66) (As := []) (rest := []) X (c_MD_thrown l D tc (fun k => s.heap.size + (66 + k)) (fun k => F2 (66 + k)) _ _ _ _ _ _ hM2) rfl rfl (by decide) (by decide) w_544 w_9 w_541 w_542 w_543 ry_MD_thrown (x_recv X hP (by decide) hM0 rfl) (ct_pre X hP hD (fr_lt 17 84 66 (by omega)) (fr_inj 17 66)) ct_blind hl.1 (Nat.le_of_ble_eq_true rfl) dLW_law_218 ⟨by decide, by decide⟩) hD hP hS (fr_lt 17 84 66 (by omega)) (fr_inj 17 66) (fun H locs hD hP hS => ?_)
        refine lv_iload hx hb dLW_law_221 (lv_at hl 1 rfl) ?_
        refine lv_icmp_eq (tgt := 228) hx hb dLW_law_223 rfl (fun _ => ?_) (fun h => absurd rfl h)
        refine lv_iload hx hb dLW_law_228 (lv_at hl 1 rfl) ?_
        refine lv_if_ne (tgt := 245) hx hb dLW_law_230 rfl (fun _ => ?_) (fun h => absurd h (by decide))
        refine lv_goto (tgt := 546) hx hb dLW_law_245 rfl ?_
        exact tail H _ ls _ _ rfl (by decide) (by decide) hS (lv_sub hl [2, 6] rfl)
      · skip
        refine lv_iconst (v := 1) hx hb dLW_law_186 (by decide) ?_
        refine lv_goto (tgt := 191) hx hb dLW_law_187 rfl ?_
        refine lv_aload_n hx hb dLW_law_191 rfl (lv_at hl 1 rfl) ?_
        refine W.sized (n_low0 hP hS (fun j hj => rfl)) (fun hz => ?_)
        refine x_iT (f := f67) (x_runSW (As := [.ref (s.heap.size + 0), .int 1, .ref (s.heap.size + 83)]) (rest := []) X (c1_LW_start l hfl D tc (fun k => s.heap.size + f67 k) (fun k => F (f67 k)) 1 (fun _ => 0) (s.heap.size + 84) hRF.at67 hO) rfl rfl (by decide) (by decide) w_271 w_0 w_269 w_270 ry_LW_start (ctT_pre (fun u U a h => va_Nc.moved a h) nc1 hTH (fun q hq => hS.2.1 q hq (Nat.not_le.mpr hq)) hz X hP hD f67_lt f67_inj) (ctT_blind (fun u U a h => va_Nc.moved a h)) hl.1 (Nat.le_of_ble_eq_true rfl) dLW_law_192 ⟨by decide, by decide⟩) hz hA hD hP hS f67_lt f67_inj (fun H locs hD hP hS => ?_)
        refine lv_istore hx hb dLW_law_195 hl (by decide) rfl (fun ls hl => ?_)
        have hl : lv_has ls 7 [(5, .int 2), (4, .int 0), (3, .ref (s.heap.size + 83)), (2, .ref (s.heap.size + 66)), (1, .ref (s.heap.size + 0)), (0, .ref b)] := hl
        refine lv_aload_n hx hb dLW_law_197 rfl (lv_at hl 3 rfl) ?_
        refine lv_aload_n hx hb dLW_law_198 rfl (lv_at hl 5 rfl) ?_
        refine lv_iload hx hb dLW_law_199 (lv_at hl 1 rfl) ?_
        refine lv_iconst (v := 1) hx hb dLW_law_201 (by decide) ?_
        refine lv_iadd hx hb dLW_law_202 ?_
        rw [show ((0 : Int32) + 1) = 1 from by decide]
        refine va_sld hx hb hX hbl hbA hS (by unfold vp_in; decide) dLW_law_203 ?_
        rw [show (1 : Int32).toNatClampNeg = 1 from by decide]
        refine lv_if_eq (tgt := 211) hx hb dLW_law_204 rfl (fun h => absurd h hc) (fun _ => ?_)
        refine lv_iconst (v := 1) hx hb dLW_law_207 (by decide) ?_
        refine lv_goto (tgt := 212) hx hb dLW_law_208 rfl ?_
        obtain ⟨ic, MA, MJ, hM, z1, z2, z3, z4, z5⟩ := hMF
        have hM0 : F 66 = _ := hM.1
        refine x_i (f := fun k => 66 + k) (x_runV (C := R_MD) (b := s.heap.size + 66) (As := [.int 1]) (rest := []) X (c1_MD_start l D tc (fun k => s.heap.size + (66 + k)) (fun k => F (66 + k)) _ _ _ _ 1 hM z1) rfl rfl (by decide) (by decide) w_559 w_9 w_556 w_557 w_558 ry_MD_start (x_recv X hP (by decide) hM0 rfl) (ct_pre X hP hD (fr_lt 17 84 66 (by omega)) (fr_inj 17 66)) ct_blind hl.1 (Nat.le_of_ble_eq_true rfl) dLW_law_212 ⟨by decide, by decide⟩) hD hP hS (fr_lt 17 84 66 (by omega)) (fr_inj 17 66) (fun o E1 h => ⟨_, h.1⟩) (fun r2 E2 H locs k2 hD hP hS => ?_)
        have er := ret_i k2.1
        subst er
        refine lv_istore hx hb dLW_law_215 hl (by decide) rfl (fun ls hl => ?_)
        have hl : lv_has ls 7 [(6, .int 0), (5, .int 2), (4, .int 0), (3, .ref (s.heap.size + 83)), (2, .ref (s.heap.size + 66)), (1, .ref (s.heap.size + 0)), (0, .ref b)] := hl
        generalize g : wU 17 (fun k => 66 + k) F E2 = F2 at hD hP
        have hM2 : isMD tc (fun k => s.heap.size + (66 + k)) (fun k => F2 (66 + k)) 2 0 ic 0 MA MJ := k2.2.cong (fun k hk => by show F2 (66 + k) = E2 k; rw [← g]; exact wU_own k hk)
        have hM0 : F2 66 = _ := hM2.1
        refine lv_aload_n hx hb dLW_law_217 rfl (lv_at hl 4 rfl) ?_
        refine x_iE (f := fun k => 66 + k) (x_runV (C := R_MD) (b := s.heap.size + 66) (As := []) (rest := []) X (c_MD_thrown l D tc (fun k => s.heap.size + (66 + k)) (fun k => F2 (66 + k)) _ _ _ _ _ _ hM2) rfl rfl (by decide) (by decide) w_544 w_9 w_541 w_542 w_543 ry_MD_thrown (x_recv X hP (by decide) hM0 rfl) (ct_pre X hP hD (fr_lt 17 84 66 (by omega)) (fr_inj 17 66)) ct_blind hl.1 (Nat.le_of_ble_eq_true rfl) dLW_law_218 ⟨by decide, by decide⟩) hD hP hS (fr_lt 17 84 66 (by omega)) (fr_inj 17 66) (fun H locs hD hP hS => ?_)
        refine lv_iload hx hb dLW_law_221 (lv_at hl 1 rfl) ?_
        refine lv_icmp_eq (tgt := 228) hx hb dLW_law_223 rfl (fun _ => ?_) (fun h => absurd rfl h)
        refine lv_iload hx hb dLW_law_228 (lv_at hl 1 rfl) ?_
        refine lv_if_ne (tgt := 245) hx hb dLW_law_230 rfl (fun _ => ?_) (fun h => absurd h (by decide))
        refine lv_goto (tgt := 546) hx hb dLW_law_245 rfl ?_
        exact tail H _ ls _ _ rfl (by decide) (by decide) hS (lv_sub hl [2, 6] rfl)
    · refine lv_tableIn (tgt := 248) hx hb dLW_law_39 (by decide) (by decide) rfl rfl ?_
      refine lv_aload_n hx hb dLW_law_248 rfl (lv_at hl 3 rfl) ?_
      refine lv_aload_n hx hb dLW_law_249 rfl (lv_at hl 4 rfl) ?_
      refine lv_iload hx hb dLW_law_250 (lv_at hl 0 rfl) ?_
      refine lv_iconst (v := 1) hx hb dLW_law_252 (by decide) ?_
      refine lv_iadd hx hb dLW_law_253 ?_
      rw [show ((0 : Int32) + 1) = 1 from by decide]
      refine va_sld hx hb hX hbl hbA hS (by unfold vp_in; decide) dLW_law_254 ?_
      rw [show (1 : Int32).toNatClampNeg = 1 from by decide]
      refine lv_aload_n hx hb dLW_law_255 rfl (lv_at hl 1 rfl) ?_
      refine W.sized (n_low0 hP hS (fun j hj => rfl)) (fun hz => ?_)
      refine x_iT (f := f67) (x_runSW (As := [.ref (s.heap.size + 0), .int (xs 1), .ref (s.heap.size + 83)]) (rest := []) X (c1_LW_step l hfl D tc (fun k => s.heap.size + f67 k) (fun k => F (f67 k)) (xs 1) (fun _ => 0) (s.heap.size + 84) hRF.at67 hO) rfl rfl (by decide) (by decide) w_359 w_0 w_357 w_358 ry_LW_step (ctT_pre (fun u U a h => va_Nc.moved a h) nc2 hTH (fun q hq => hS.2.1 q hq (Nat.not_le.mpr hq)) hz X hP hD f67_lt f67_inj) (ctT_blind (fun u U a h => va_Nc.moved a h)) hl.1 (Nat.le_of_ble_eq_true rfl) dLW_law_256 ⟨by decide, by decide⟩) hz hA hD hP hS f67_lt f67_inj (fun H locs hD hP hS => ?_)
      refine lv_istore hx hb dLW_law_259 hl (by decide) rfl (fun ls hl => ?_)
      have hl : lv_has ls 7 [(5, .int (if wi (xs 1) 5 = true then 2 else 1)), (4, .int 0), (3, .ref (s.heap.size + 83)), (2, .ref (s.heap.size + 66)), (1, .ref (s.heap.size + 0)), (0, .ref b)] := hl
      refine lv_aload_n hx hb dLW_law_261 rfl (lv_at hl 3 rfl) ?_
      refine lv_aload_n hx hb dLW_law_262 rfl (lv_at hl 5 rfl) ?_
      refine lv_iload hx hb dLW_law_263 (lv_at hl 1 rfl) ?_
      refine lv_iconst (v := 1) hx hb dLW_law_265 (by decide) ?_
      refine lv_iadd hx hb dLW_law_266 ?_
      rw [show ((0 : Int32) + 1) = 1 from by decide]
      refine va_sld hx hb hX hbl hbA hS (by unfold vp_in; decide) dLW_law_267 ?_
      rw [show (1 : Int32).toNatClampNeg = 1 from by decide]
      obtain ⟨ic, MA, MJ, hM, z1, z2, z3, z4, z5⟩ := hMF
      have hM0 : F 66 = _ := hM.1
      refine x_i (f := fun k => 66 + k) (x_runV (C := R_MD) (b := s.heap.size + 66) (As := [.int (xs 1)]) (rest := []) X (c1_MD_step l D tc (fun k => s.heap.size + (66 + k)) (fun k => F (66 + k)) _ _ _ _ (xs 1) hM ) rfl rfl (by decide) (by decide) w_571 w_9 w_568 w_569 w_570 ry_MD_step (x_recv X hP (by decide) hM0 rfl) (ct_pre X hP hD (fr_lt 17 84 66 (by omega)) (fr_inj 17 66)) ct_blind hl.1 (Nat.le_of_ble_eq_true rfl) dLW_law_268 ⟨by decide, by decide⟩) hD hP hS (fr_lt 17 84 66 (by omega)) (fr_inj 17 66) (fun o E1 h => ⟨_, h.1⟩) (fun r2 E2 H locs k2 hD hP hS => ?_)
      have er := ret_i k2.1
      subst er
      refine lv_istore hx hb dLW_law_271 hl (by decide) rfl (fun ls hl => ?_)
      have hl : lv_has ls 7 [(6, .int 0), (5, .int (if wi (xs 1) 5 = true then 2 else 1)), (4, .int 0), (3, .ref (s.heap.size + 83)), (2, .ref (s.heap.size + 66)), (1, .ref (s.heap.size + 0)), (0, .ref b)] := hl
      generalize g : wU 17 (fun k => 66 + k) F E2 = F2 at hD hP
      have hM2 : isMD tc (fun k => s.heap.size + (66 + k)) (fun k => F2 (66 + k)) (if wi (xs 1) 5 = true then 2 else 1) 0 ic 0 MA MJ := k2.2.cong (fun k hk => by show F2 (66 + k) = E2 k; rw [← g]; exact wU_own k hk)
      have hM0 : F2 66 = _ := hM2.1
      refine lv_aload_n hx hb dLW_law_273 rfl (lv_at hl 4 rfl) ?_
      refine x_iE (f := fun k => 66 + k) (x_runV (C := R_MD) (b := s.heap.size + 66) (As := []) (rest := []) X (c_MD_thrown l D tc (fun k => s.heap.size + (66 + k)) (fun k => F2 (66 + k)) _ _ _ _ _ _ hM2) rfl rfl (by decide) (by decide) w_544 w_9 w_541 w_542 w_543 ry_MD_thrown (x_recv X hP (by decide) hM0 rfl) (ct_pre X hP hD (fr_lt 17 84 66 (by omega)) (fr_inj 17 66)) ct_blind hl.1 (Nat.le_of_ble_eq_true rfl) dLW_law_274 ⟨by decide, by decide⟩) hD hP hS (fr_lt 17 84 66 (by omega)) (fr_inj 17 66) (fun H locs hD hP hS => ?_)
      refine lv_iload hx hb dLW_law_277 (lv_at hl 1 rfl) ?_
      refine lv_icmp_eq (tgt := 284) hx hb dLW_law_279 rfl (fun _ => ?_) (fun h => absurd rfl h)
      refine lv_iload hx hb dLW_law_284 (lv_at hl 1 rfl) ?_
      refine lv_if_ne (tgt := 301) hx hb dLW_law_286 rfl (fun _ => ?_) (fun h => absurd h (by split <;> decide))
      refine lv_goto (tgt := 546) hx hb dLW_law_301 rfl ?_
      exact tail H _ ls _ _ rfl (by decide) (by decide) hS (lv_sub hl [2, 6] rfl)
    · refine lv_tableIn (tgt := 304) hx hb dLW_law_39 (by decide) (by decide) rfl rfl ?_
      refine lv_aload_n hx hb dLW_law_304 rfl (lv_at hl 3 rfl) ?_
      refine lv_aload_n hx hb dLW_law_305 rfl (lv_at hl 4 rfl) ?_
      refine lv_iload hx hb dLW_law_306 (lv_at hl 0 rfl) ?_
      refine lv_iconst (v := 1) hx hb dLW_law_308 (by decide) ?_
      refine lv_iadd hx hb dLW_law_309 ?_
      rw [show ((0 : Int32) + 1) = 1 from by decide]
      refine va_sld hx hb hX hbl hbA hS (by unfold vp_in; decide) dLW_law_310 ?_
      rw [show (1 : Int32).toNatClampNeg = 1 from by decide]
      refine x_lE (f := fun k => 0 + k) (x_runV (C := R_RW) (b := s.heap.size + 0) (As := [.int (xs 1)]) (rest := []) X (c_RW_state l D tc (fun k => s.heap.size + (0 + k)) (fun k => F (0 + k)) (xs 1) (by simpa only [Nat.zero_add] using hRF)) rfl rfl (by decide) (by decide) w_203 w_1 w_200 w_201 w_202 ry_RW_state (x_recv X hP (by decide) hR0 rfl) (ct_pre X hP hD (fr_lt 66 84 0 (by omega)) (fr_inj 66 0)) ct_blind hl.1 (Nat.le_of_ble_eq_true rfl) dLW_law_311 ⟨by decide, by decide⟩) hD hP hS (fr_lt 66 84 0 (by omega)) (fr_inj 66 0) (fun H locs hD hP hS => ?_)
      refine lv_aload_n hx hb dLW_law_314 rfl (lv_at hl 2 rfl) ?_
      refine lv_aload_n hx hb dLW_law_315 rfl (lv_at hl 4 rfl) ?_
      refine lv_iload hx hb dLW_law_316 (lv_at hl 0 rfl) ?_
      refine lv_iconst (v := 1) hx hb dLW_law_318 (by decide) ?_
      refine lv_iadd hx hb dLW_law_319 ?_
      rw [show ((0 : Int32) + 1) = 1 from by decide]
      refine va_sld hx hb hX hbl hbA hS (by unfold vp_in; decide) dLW_law_320 ?_
      rw [show (1 : Int32).toNatClampNeg = 1 from by decide]
      obtain ⟨ic, MA, MJ, hM, z1, z2, z3, z4, z5⟩ := hMF
      have hM0 : F 66 = _ := hM.1
      refine x_l (f := fun k => 66 + k) (x_runV (C := R_MD) (b := s.heap.size + 66) (As := [.int (xs 1)]) (rest := [.long (-1)]) X (c_MD_state l D tc (fun k => s.heap.size + (66 + k)) (fun k => F (66 + k)) _ _ _ _ (xs 1) hM ) rfl rfl (by decide) (by decide) w_623 w_9 w_620 w_621 w_622 ry_MD_state (x_recv X hP (by decide) hM0 rfl) (ct_pre X hP hD (fr_lt 17 84 66 (by omega)) (fr_inj 17 66)) ct_blind hl.1 (Nat.le_of_ble_eq_true rfl) dLW_law_321 ⟨by decide, by decide⟩) hD hP hS (fr_lt 17 84 66 (by omega)) (fr_inj 17 66) (fun o E1 h => ⟨_, h.1⟩) (fun r2 E2 H locs k2 hD hP hS => ?_)
      have er := ret_l k2.1
      subst er
      refine W.lcmp hx hb dLW_law_324 ?_
      refine lv_if_eq (tgt := 546) hx hb dLW_law_325 rfl (fun _ => ?_) (fun h => absurd (by decide) h)
      exact tail H _ ls _ _ rfl (by decide) (by decide) hS (lv_sub hl [0, 4] rfl)
    · refine lv_tableIn (tgt := 330) hx hb dLW_law_39 (by decide) (by decide) rfl rfl ?_
      refine lv_aload_n hx hb dLW_law_330 rfl (lv_at hl 3 rfl) ?_
      refine lv_aload_n hx hb dLW_law_331 rfl (lv_at hl 4 rfl) ?_
      refine lv_iload hx hb dLW_law_332 (lv_at hl 0 rfl) ?_
      refine lv_iconst (v := 1) hx hb dLW_law_334 (by decide) ?_
      refine lv_iadd hx hb dLW_law_335 ?_
      rw [show ((0 : Int32) + 1) = 1 from by decide]
      refine va_sld hx hb hX hbl hbA hS (by unfold vp_in; decide) dLW_law_336 ?_
      rw [show (1 : Int32).toNatClampNeg = 1 from by decide]
      refine x_iE (f := fun k => 0 + k) (x_runV (C := R_RW) (b := s.heap.size + 0) (As := [.int (xs 1)]) (rest := []) X (c_RW_holder l D tc (fun k => s.heap.size + (0 + k)) (fun k => F (0 + k)) (xs 1) (by simpa only [Nat.zero_add] using hRF)) rfl rfl (by decide) (by decide) w_210 w_1 w_207 w_208 w_209 ry_RW_holder (x_recv X hP (by decide) hR0 rfl) (ct_pre X hP hD (fr_lt 66 84 0 (by omega)) (fr_inj 66 0)) ct_blind hl.1 (Nat.le_of_ble_eq_true rfl) dLW_law_337 ⟨by decide, by decide⟩) hD hP hS (fr_lt 66 84 0 (by omega)) (fr_inj 66 0) (fun H locs hD hP hS => ?_)
      refine lv_aload_n hx hb dLW_law_340 rfl (lv_at hl 2 rfl) ?_
      refine lv_aload_n hx hb dLW_law_341 rfl (lv_at hl 4 rfl) ?_
      refine lv_iload hx hb dLW_law_342 (lv_at hl 0 rfl) ?_
      refine lv_iconst (v := 1) hx hb dLW_law_344 (by decide) ?_
      refine lv_iadd hx hb dLW_law_345 ?_
      rw [show ((0 : Int32) + 1) = 1 from by decide]
      refine va_sld hx hb hX hbl hbA hS (by unfold vp_in; decide) dLW_law_346 ?_
      rw [show (1 : Int32).toNatClampNeg = 1 from by decide]
      obtain ⟨ic, MA, MJ, hM, z1, z2, z3, z4, z5⟩ := hMF
      have hM0 : F 66 = _ := hM.1
      refine x_i (f := fun k => 66 + k) (x_runV (C := R_MD) (b := s.heap.size + 66) (As := [.int (xs 1)]) (rest := [.int (-1)]) X (c_MD_holder l D tc (fun k => s.heap.size + (66 + k)) (fun k => F (66 + k)) _ _ _ _ (xs 1) hM z4) rfl rfl (by decide) (by decide) w_629 w_9 w_626 w_627 w_628 ry_MD_holder (x_recv X hP (by decide) hM0 rfl) (ct_pre X hP hD (fr_lt 17 84 66 (by omega)) (fr_inj 17 66)) ct_blind hl.1 (Nat.le_of_ble_eq_true rfl) dLW_law_347 ⟨by decide, by decide⟩) hD hP hS (fr_lt 17 84 66 (by omega)) (fr_inj 17 66) (fun o E1 h => ⟨_, h.1⟩) (fun r2 E2 H locs k2 hD hP hS => ?_)
      have er := ret_i k2.1
      subst er
      refine lv_icmp_eq (tgt := 546) hx hb dLW_law_350 rfl (fun _ => ?_) (fun h => absurd rfl h)
      exact tail H _ ls _ _ rfl (by decide) (by decide) hS (lv_sub hl [0, 4] rfl)
    · refine lv_tableIn (tgt := 355) hx hb dLW_law_39 (by decide) (by decide) rfl rfl ?_
      refine lv_aload_n hx hb dLW_law_355 rfl (lv_at hl 3 rfl) ?_
      refine x_iE (f := fun k => 0 + k) (x_runV (C := R_RW) (b := s.heap.size + 0) (As := []) (rest := []) X (c_RW_events l D tc (fun k => s.heap.size + (0 + k)) (fun k => F (0 + k))  (by simpa only [Nat.zero_add] using hRF)) rfl rfl (by decide) (by decide) w_214 w_1 w_211 w_212 w_213 ry_RW_events (x_recv X hP (by decide) hR0 rfl) (ct_pre X hP hD (fr_lt 66 84 0 (by omega)) (fr_inj 66 0)) ct_blind hl.1 (Nat.le_of_ble_eq_true rfl) dLW_law_356 ⟨by decide, by decide⟩) hD hP hS (fr_lt 66 84 0 (by omega)) (fr_inj 66 0) (fun H locs hD hP hS => ?_)
      refine lv_aload_n hx hb dLW_law_359 rfl (lv_at hl 2 rfl) ?_
      obtain ⟨ic, MA, MJ, hM, z1, z2, z3, z4, z5⟩ := hMF
      have hM0 : F 66 = _ := hM.1
      refine x_i (f := fun k => 66 + k) (x_runV (C := R_MD) (b := s.heap.size + 66) (As := []) (rest := [.int 0]) X (c_MD_events l D tc (fun k => s.heap.size + (66 + k)) (fun k => F (66 + k)) _ _ _ _  hM ) rfl rfl (by decide) (by decide) w_633 w_9 w_630 w_631 w_632 ry_MD_events (x_recv X hP (by decide) hM0 rfl) (ct_pre X hP hD (fr_lt 17 84 66 (by omega)) (fr_inj 17 66)) ct_blind hl.1 (Nat.le_of_ble_eq_true rfl) dLW_law_360 ⟨by decide, by decide⟩) hD hP hS (fr_lt 17 84 66 (by omega)) (fr_inj 17 66) (fun o E1 h => ⟨_, h.1⟩) (fun r2 E2 H locs k2 hD hP hS => ?_)
      have er := ret_i k2.1
      subst er
      refine lv_icmp_eq (tgt := 546) hx hb dLW_law_363 rfl (fun _ => ?_) (fun h => absurd rfl h)
      exact tail H _ ls _ _ rfl (by decide) (by decide) hS (lv_sub hl [0, 4] rfl)
    · refine lv_tableIn (tgt := 368) hx hb dLW_law_39 (by decide) (by decide) rfl rfl ?_
      refine lv_aload_n hx hb dLW_law_368 rfl (lv_at hl 3 rfl) ?_
      refine lv_aload_n hx hb dLW_law_369 rfl (lv_at hl 4 rfl) ?_
      refine lv_iload hx hb dLW_law_370 (lv_at hl 0 rfl) ?_
      refine lv_iconst (v := 1) hx hb dLW_law_372 (by decide) ?_
      refine lv_iadd hx hb dLW_law_373 ?_
      rw [show ((0 : Int32) + 1) = 1 from by decide]
      refine va_sld hx hb hX hbl hbA hS (by unfold vp_in; decide) dLW_law_374 ?_
      rw [show (1 : Int32).toNatClampNeg = 1 from by decide]
      refine x_iE (f := fun k => 0 + k) (x_runV (C := R_RW) (b := s.heap.size + 0) (As := [.int (xs 1)]) (rest := []) X (c_RW_event l D tc (fun k => s.heap.size + (0 + k)) (fun k => F (0 + k)) (xs 1) (by simpa only [Nat.zero_add] using hRF)) rfl rfl (by decide) (by decide) w_218 w_1 w_215 w_216 w_217 ry_RW_event (x_recv X hP (by decide) hR0 rfl) (ct_pre X hP hD (fr_lt 66 84 0 (by omega)) (fr_inj 66 0)) ct_blind hl.1 (Nat.le_of_ble_eq_true rfl) dLW_law_375 ⟨by decide, by decide⟩) hD hP hS (fr_lt 66 84 0 (by omega)) (fr_inj 66 0) (fun H locs hD hP hS => ?_)
      refine lv_aload_n hx hb dLW_law_378 rfl (lv_at hl 2 rfl) ?_
      refine lv_aload_n hx hb dLW_law_379 rfl (lv_at hl 4 rfl) ?_
      refine lv_iload hx hb dLW_law_380 (lv_at hl 0 rfl) ?_
      refine lv_iconst (v := 1) hx hb dLW_law_382 (by decide) ?_
      refine lv_iadd hx hb dLW_law_383 ?_
      rw [show ((0 : Int32) + 1) = 1 from by decide]
      refine va_sld hx hb hX hbl hbA hS (by unfold vp_in; decide) dLW_law_384 ?_
      rw [show (1 : Int32).toNatClampNeg = 1 from by decide]
      obtain ⟨ic, MA, MJ, hM, z1, z2, z3, z4, z5⟩ := hMF
      have hM0 : F 66 = _ := hM.1
      refine x_i (f := fun k => 66 + k) (x_runV (C := R_MD) (b := s.heap.size + 66) (As := [.int (xs 1)]) (rest := [.int (-1)]) X (c_MD_event l D tc (fun k => s.heap.size + (66 + k)) (fun k => F (66 + k)) _ _ _ _ (xs 1) hM ) rfl rfl (by decide) (by decide) w_637 w_9 w_634 w_635 w_636 ry_MD_event (x_recv X hP (by decide) hM0 rfl) (ct_pre X hP hD (fr_lt 17 84 66 (by omega)) (fr_inj 17 66)) ct_blind hl.1 (Nat.le_of_ble_eq_true rfl) dLW_law_385 ⟨by decide, by decide⟩) hD hP hS (fr_lt 17 84 66 (by omega)) (fr_inj 17 66) (fun o E1 h => ⟨_, h.1⟩) (fun r2 E2 H locs k2 hD hP hS => ?_)
      have er := ret_i k2.1
      subst er
      refine lv_icmp_eq (tgt := 546) hx hb dLW_law_388 rfl (fun _ => ?_) (fun h => absurd rfl h)
      exact tail H _ ls _ _ rfl (by decide) (by decide) hS (lv_sub hl [0, 4] rfl)
    · refine lv_tableIn (tgt := 393) hx hb dLW_law_39 (by decide) (by decide) rfl rfl ?_
      refine lv_aload_n hx hb dLW_law_393 rfl (lv_at hl 3 rfl) ?_
      refine lv_aload_n hx hb dLW_law_394 rfl (lv_at hl 4 rfl) ?_
      refine lv_iload hx hb dLW_law_395 (lv_at hl 0 rfl) ?_
      refine lv_iconst (v := 1) hx hb dLW_law_397 (by decide) ?_
      refine lv_iadd hx hb dLW_law_398 ?_
      rw [show ((0 : Int32) + 1) = 1 from by decide]
      refine va_sld hx hb hX hbl hbA hS (by unfold vp_in; decide) dLW_law_399 ?_
      rw [show (1 : Int32).toNatClampNeg = 1 from by decide]
      refine lv_aload_n hx hb dLW_law_400 rfl (lv_at hl 4 rfl) ?_
      refine lv_iload hx hb dLW_law_401 (lv_at hl 0 rfl) ?_
      refine lv_iconst (v := 2) hx hb dLW_law_403 (by decide) ?_
      refine lv_iadd hx hb dLW_law_404 ?_
      rw [show ((0 : Int32) + 2) = 2 from by decide]
      refine va_sld hx hb hX hbl hbA hS (by unfold vp_in; decide) dLW_law_405 ?_
      rw [show (2 : Int32).toNatClampNeg = 2 from by decide]
      refine x_iE (f := fun k => 0 + k) (x_runV (C := R_RW) (b := s.heap.size + 0) (As := [.int (xs 1), .int (xs 2)]) (rest := []) X (c_RW_before l D tc (fun k => s.heap.size + (0 + k)) (fun k => F (0 + k)) (xs 1) (xs 2) (by simpa only [Nat.zero_add] using hRF)) rfl rfl (by decide) (by decide) w_226 w_1 w_223 w_224 w_225 ry_RW_before (x_recv X hP (by decide) hR0 rfl) (ct_pre X hP hD (fr_lt 66 84 0 (by omega)) (fr_inj 66 0)) ct_blind hl.1 (Nat.le_of_ble_eq_true rfl) dLW_law_406 ⟨by decide, by decide⟩) hD hP hS (fr_lt 66 84 0 (by omega)) (fr_inj 66 0) (fun H locs hD hP hS => ?_)
      refine lv_aload_n hx hb dLW_law_409 rfl (lv_at hl 2 rfl) ?_
      refine lv_aload_n hx hb dLW_law_410 rfl (lv_at hl 4 rfl) ?_
      refine lv_iload hx hb dLW_law_411 (lv_at hl 0 rfl) ?_
      refine lv_iconst (v := 1) hx hb dLW_law_413 (by decide) ?_
      refine lv_iadd hx hb dLW_law_414 ?_
      rw [show ((0 : Int32) + 1) = 1 from by decide]
      refine va_sld hx hb hX hbl hbA hS (by unfold vp_in; decide) dLW_law_415 ?_
      rw [show (1 : Int32).toNatClampNeg = 1 from by decide]
      refine lv_aload_n hx hb dLW_law_416 rfl (lv_at hl 4 rfl) ?_
      refine lv_iload hx hb dLW_law_417 (lv_at hl 0 rfl) ?_
      refine lv_iconst (v := 2) hx hb dLW_law_419 (by decide) ?_
      refine lv_iadd hx hb dLW_law_420 ?_
      rw [show ((0 : Int32) + 2) = 2 from by decide]
      refine va_sld hx hb hX hbl hbA hS (by unfold vp_in; decide) dLW_law_421 ?_
      rw [show (2 : Int32).toNatClampNeg = 2 from by decide]
      obtain ⟨ic, MA, MJ, hM, z1, z2, z3, z4, z5⟩ := hMF
      have hM0 : F 66 = _ := hM.1
      refine x_i (f := fun k => 66 + k) (x_runV (C := R_MD) (b := s.heap.size + 66) (As := [.int (xs 1), .int (xs 2)]) (rest := [.int 0]) X (c_MD_before l D tc (fun k => s.heap.size + (66 + k)) (fun k => F (66 + k)) _ _ _ _ (xs 1) (xs 2) hM ) rfl rfl (by decide) (by decide) w_641 w_9 w_638 w_639 w_640 ry_MD_before (x_recv X hP (by decide) hM0 rfl) (ct_pre X hP hD (fr_lt 17 84 66 (by omega)) (fr_inj 17 66)) ct_blind hl.1 (Nat.le_of_ble_eq_true rfl) dLW_law_422 ⟨by decide, by decide⟩) hD hP hS (fr_lt 17 84 66 (by omega)) (fr_inj 17 66) (fun o E1 h => ⟨_, h.1⟩) (fun r2 E2 H locs k2 hD hP hS => ?_)
      have er := ret_i k2.1
      subst er
      refine lv_icmp_eq (tgt := 546) hx hb dLW_law_425 rfl (fun _ => ?_) (fun h => absurd rfl h)
      exact tail H _ ls _ _ rfl (by decide) (by decide) hS (lv_sub hl [0, 4] rfl)
    · refine lv_tableIn (tgt := 430) hx hb dLW_law_39 (by decide) (by decide) rfl rfl ?_
      refine lv_aload_n hx hb dLW_law_430 rfl (lv_at hl 3 rfl) ?_
      refine lv_aload_n hx hb dLW_law_431 rfl (lv_at hl 4 rfl) ?_
      refine lv_iload hx hb dLW_law_432 (lv_at hl 0 rfl) ?_
      refine lv_iconst (v := 1) hx hb dLW_law_434 (by decide) ?_
      refine lv_iadd hx hb dLW_law_435 ?_
      rw [show ((0 : Int32) + 1) = 1 from by decide]
      refine va_sld hx hb hX hbl hbA hS (by unfold vp_in; decide) dLW_law_436 ?_
      rw [show (1 : Int32).toNatClampNeg = 1 from by decide]
      refine x_iE (f := fun k => 0 + k) (x_runV (C := R_RW) (b := s.heap.size + 0) (As := [.int (xs 1)]) (rest := []) X (c_RW_race l D tc (fun k => s.heap.size + (0 + k)) (fun k => F (0 + k)) (xs 1) (by simpa only [Nat.zero_add] using hRF)) rfl rfl (by decide) (by decide) w_238 w_1 w_235 w_236 w_237 ry_RW_race (x_recv X hP (by decide) hR0 rfl) (ct_pre X hP hD (fr_lt 66 84 0 (by omega)) (fr_inj 66 0)) ct_blind hl.1 (Nat.le_of_ble_eq_true rfl) dLW_law_437 ⟨by decide, by decide⟩) hD hP hS (fr_lt 66 84 0 (by omega)) (fr_inj 66 0) (fun H locs hD hP hS => ?_)
      refine lv_aload_n hx hb dLW_law_440 rfl (lv_at hl 2 rfl) ?_
      refine lv_aload_n hx hb dLW_law_441 rfl (lv_at hl 4 rfl) ?_
      refine lv_iload hx hb dLW_law_442 (lv_at hl 0 rfl) ?_
      refine lv_iconst (v := 1) hx hb dLW_law_444 (by decide) ?_
      refine lv_iadd hx hb dLW_law_445 ?_
      rw [show ((0 : Int32) + 1) = 1 from by decide]
      refine va_sld hx hb hX hbl hbA hS (by unfold vp_in; decide) dLW_law_446 ?_
      rw [show (1 : Int32).toNatClampNeg = 1 from by decide]
      obtain ⟨ic, MA, MJ, hM, z1, z2, z3, z4, z5⟩ := hMF
      have hM0 : F 66 = _ := hM.1
      refine x_i (f := fun k => 66 + k) (x_runV (C := R_MD) (b := s.heap.size + 66) (As := [.int (xs 1)]) (rest := [.int (-1)]) X (c_MD_race l D tc (fun k => s.heap.size + (66 + k)) (fun k => F (66 + k)) _ _ _ _ (xs 1) hM z2) rfl rfl (by decide) (by decide) w_645 w_9 w_642 w_643 w_644 ry_MD_race (x_recv X hP (by decide) hM0 rfl) (ct_pre X hP hD (fr_lt 17 84 66 (by omega)) (fr_inj 17 66)) ct_blind hl.1 (Nat.le_of_ble_eq_true rfl) dLW_law_447 ⟨by decide, by decide⟩) hD hP hS (fr_lt 17 84 66 (by omega)) (fr_inj 17 66) (fun o E1 h => ⟨_, h.1⟩) (fun r2 E2 H locs k2 hD hP hS => ?_)
      have er := ret_i k2.1
      subst er
      refine lv_icmp_eq (tgt := 546) hx hb dLW_law_450 rfl (fun _ => ?_) (fun h => absurd rfl h)
      exact tail H _ ls _ _ rfl (by decide) (by decide) hS (lv_sub hl [0, 4] rfl)
    · refine lv_tableIn (tgt := 455) hx hb dLW_law_39 (by decide) (by decide) rfl rfl ?_
      refine lv_aload_n hx hb dLW_law_455 rfl (lv_at hl 3 rfl) ?_
      refine lv_aload_n hx hb dLW_law_456 rfl (lv_at hl 4 rfl) ?_
      refine lv_iload hx hb dLW_law_457 (lv_at hl 0 rfl) ?_
      refine lv_iconst (v := 1) hx hb dLW_law_459 (by decide) ?_
      refine lv_iadd hx hb dLW_law_460 ?_
      rw [show ((0 : Int32) + 1) = 1 from by decide]
      refine va_sld hx hb hX hbl hbA hS (by unfold vp_in; decide) dLW_law_461 ?_
      rw [show (1 : Int32).toNatClampNeg = 1 from by decide]
      refine x_iE (f := fun k => 0 + k) (x_runV (C := R_RW) (b := s.heap.size + 0) (As := [.int (xs 1)]) (rest := []) X (c_RW_partner l D tc (fun k => s.heap.size + (0 + k)) (fun k => F (0 + k)) (xs 1) (by simpa only [Nat.zero_add] using hRF)) rfl rfl (by decide) (by decide) w_250 w_1 w_247 w_248 w_249 ry_RW_partner (x_recv X hP (by decide) hR0 rfl) (ct_pre X hP hD (fr_lt 66 84 0 (by omega)) (fr_inj 66 0)) ct_blind hl.1 (Nat.le_of_ble_eq_true rfl) dLW_law_462 ⟨by decide, by decide⟩) hD hP hS (fr_lt 66 84 0 (by omega)) (fr_inj 66 0) (fun H locs hD hP hS => ?_)
      refine lv_aload_n hx hb dLW_law_465 rfl (lv_at hl 2 rfl) ?_
      refine lv_aload_n hx hb dLW_law_466 rfl (lv_at hl 4 rfl) ?_
      refine lv_iload hx hb dLW_law_467 (lv_at hl 0 rfl) ?_
      refine lv_iconst (v := 1) hx hb dLW_law_469 (by decide) ?_
      refine lv_iadd hx hb dLW_law_470 ?_
      rw [show ((0 : Int32) + 1) = 1 from by decide]
      refine va_sld hx hb hX hbl hbA hS (by unfold vp_in; decide) dLW_law_471 ?_
      rw [show (1 : Int32).toNatClampNeg = 1 from by decide]
      obtain ⟨ic, MA, MJ, hM, z1, z2, z3, z4, z5⟩ := hMF
      have hM0 : F 66 = _ := hM.1
      refine x_i (f := fun k => 66 + k) (x_runV (C := R_MD) (b := s.heap.size + 66) (As := [.int (xs 1)]) (rest := [.int (-1)]) X (c_MD_partner l D tc (fun k => s.heap.size + (66 + k)) (fun k => F (66 + k)) _ _ _ _ (xs 1) hM z3) rfl rfl (by decide) (by decide) w_649 w_9 w_646 w_647 w_648 ry_MD_partner (x_recv X hP (by decide) hM0 rfl) (ct_pre X hP hD (fr_lt 17 84 66 (by omega)) (fr_inj 17 66)) ct_blind hl.1 (Nat.le_of_ble_eq_true rfl) dLW_law_472 ⟨by decide, by decide⟩) hD hP hS (fr_lt 17 84 66 (by omega)) (fr_inj 17 66) (fun o E1 h => ⟨_, h.1⟩) (fun r2 E2 H locs k2 hD hP hS => ?_)
      have er := ret_i k2.1
      subst er
      refine lv_icmp_eq (tgt := 546) hx hb dLW_law_475 rfl (fun _ => ?_) (fun h => absurd rfl h)
      exact tail H _ ls _ _ rfl (by decide) (by decide) hS (lv_sub hl [0, 4] rfl)
    · refine lv_tableIn (tgt := 480) hx hb dLW_law_39 (by decide) (by decide) rfl rfl ?_
      refine lv_aload_n hx hb dLW_law_480 rfl (lv_at hl 3 rfl) ?_
      refine x_iE (f := fun k => 0 + k) (x_runV (C := R_RW) (b := s.heap.size + 0) (As := []) (rest := []) X (c_RW_races l D tc (fun k => s.heap.size + (0 + k)) (fun k => F (0 + k))  (by simpa only [Nat.zero_add] using hRF)) rfl rfl (by decide) (by decide) w_254 w_1 w_251 w_252 w_253 ry_RW_races (x_recv X hP (by decide) hR0 rfl) (ct_pre X hP hD (fr_lt 66 84 0 (by omega)) (fr_inj 66 0)) ct_blind hl.1 (Nat.le_of_ble_eq_true rfl) dLW_law_481 ⟨by decide, by decide⟩) hD hP hS (fr_lt 66 84 0 (by omega)) (fr_inj 66 0) (fun H locs hD hP hS => ?_)
      refine lv_aload_n hx hb dLW_law_484 rfl (lv_at hl 2 rfl) ?_
      obtain ⟨ic, MA, MJ, hM, z1, z2, z3, z4, z5⟩ := hMF
      have hM0 : F 66 = _ := hM.1
      refine x_i (f := fun k => 66 + k) (x_runV (C := R_MD) (b := s.heap.size + 66) (As := []) (rest := [.int 0]) X (c_MD_races l D tc (fun k => s.heap.size + (66 + k)) (fun k => F (66 + k)) _ _ _ _  hM z2) rfl rfl (by decide) (by decide) w_653 w_9 w_650 w_651 w_652 ry_MD_races (x_recv X hP (by decide) hM0 rfl) (ct_pre X hP hD (fr_lt 17 84 66 (by omega)) (fr_inj 17 66)) ct_blind hl.1 (Nat.le_of_ble_eq_true rfl) dLW_law_485 ⟨by decide, by decide⟩) hD hP hS (fr_lt 17 84 66 (by omega)) (fr_inj 17 66) (fun o E1 h => ⟨_, h.1⟩) (fun r2 E2 H locs k2 hD hP hS => ?_)
      have er := ret_i k2.1
      subst er
      refine lv_icmp_eq (tgt := 546) hx hb dLW_law_488 rfl (fun _ => ?_) (fun h => absurd rfl h)
      exact tail H _ ls _ _ rfl (by decide) (by decide) hS (lv_sub hl [0, 4] rfl)
    · refine lv_tableIn (tgt := 493) hx hb dLW_law_39 (by decide) (by decide) rfl rfl ?_
      refine lv_aload_n hx hb dLW_law_493 rfl (lv_at hl 3 rfl) ?_
      refine lv_aload_n hx hb dLW_law_494 rfl (lv_at hl 4 rfl) ?_
      refine lv_iload hx hb dLW_law_495 (lv_at hl 0 rfl) ?_
      refine lv_iconst (v := 1) hx hb dLW_law_497 (by decide) ?_
      refine lv_iadd hx hb dLW_law_498 ?_
      rw [show ((0 : Int32) + 1) = 1 from by decide]
      refine va_sld hx hb hX hbl hbA hS (by unfold vp_in; decide) dLW_law_499 ?_
      rw [show (1 : Int32).toNatClampNeg = 1 from by decide]
      refine lv_aload_n hx hb dLW_law_500 rfl (lv_at hl 4 rfl) ?_
      refine lv_iload hx hb dLW_law_501 (lv_at hl 0 rfl) ?_
      refine lv_iconst (v := 2) hx hb dLW_law_503 (by decide) ?_
      refine lv_iadd hx hb dLW_law_504 ?_
      rw [show ((0 : Int32) + 2) = 2 from by decide]
      refine va_sld hx hb hX hbl hbA hS (by unfold vp_in; decide) dLW_law_505 ?_
      rw [show (2 : Int32).toNatClampNeg = 2 from by decide]
      refine lv_if_eq (tgt := 513) hx hb dLW_law_506 rfl (fun hc => ?_) (fun hc => ?_)
      · skip
        refine lv_iconst (v := 0) hx hb dLW_law_513 (by decide) ?_
        refine x_iE (f := fun k => 0 + k) (x_runV (C := R_RW) (b := s.heap.size + 0) (As := [.int (xs 1), .int 0]) (rest := []) X (c_RW_again l D tc (fun k => s.heap.size + (0 + k)) (fun k => F (0 + k)) (xs 1) 0 (by simpa only [Nat.zero_add] using hRF)) rfl rfl (by decide) (by decide) w_268 w_1 w_265 w_266 w_267 ry_RW_again (x_recv X hP (by decide) hR0 rfl) (ct_pre X hP hD (fr_lt 66 84 0 (by omega)) (fr_inj 66 0)) ct_blind hl.1 (Nat.le_of_ble_eq_true rfl) dLW_law_514 ⟨by decide, by decide⟩) hD hP hS (fr_lt 66 84 0 (by omega)) (fr_inj 66 0) (fun H locs hD hP hS => ?_)
        refine lv_aload_n hx hb dLW_law_517 rfl (lv_at hl 2 rfl) ?_
        refine lv_aload_n hx hb dLW_law_518 rfl (lv_at hl 4 rfl) ?_
        refine lv_iload hx hb dLW_law_519 (lv_at hl 0 rfl) ?_
        refine lv_iconst (v := 1) hx hb dLW_law_521 (by decide) ?_
        refine lv_iadd hx hb dLW_law_522 ?_
        rw [show ((0 : Int32) + 1) = 1 from by decide]
        refine va_sld hx hb hX hbl hbA hS (by unfold vp_in; decide) dLW_law_523 ?_
        rw [show (1 : Int32).toNatClampNeg = 1 from by decide]
        refine lv_aload_n hx hb dLW_law_524 rfl (lv_at hl 4 rfl) ?_
        refine lv_iload hx hb dLW_law_525 (lv_at hl 0 rfl) ?_
        refine lv_iconst (v := 2) hx hb dLW_law_527 (by decide) ?_
        refine lv_iadd hx hb dLW_law_528 ?_
        rw [show ((0 : Int32) + 2) = 2 from by decide]
        refine va_sld hx hb hX hbl hbA hS (by unfold vp_in; decide) dLW_law_529 ?_
        rw [show (2 : Int32).toNatClampNeg = 2 from by decide]
        refine lv_if_eq (tgt := 537) hx hb dLW_law_530 rfl (fun _ => ?_) (fun h => absurd hc h)
        refine lv_iconst (v := 0) hx hb dLW_law_537 (by decide) ?_
        obtain ⟨ic, MA, MJ, hM, z1, z2, z3, z4, z5⟩ := hMF
        have hM0 : F 66 = _ := hM.1
        refine x_i (f := fun k => 66 + k) (x_runV (C := R_MD) (b := s.heap.size + 66) (As := [.int (xs 1), .int 0]) (rest := [.int (if xs 1 = 0 then 0 else -1)]) X (c_MD_again l D tc (fun k => s.heap.size + (66 + k)) (fun k => F (66 + k)) _ _ _ _ (xs 1) 0 hM ) rfl rfl (by decide) (by decide) w_657 w_9 w_654 w_655 w_656 ry_MD_again (x_recv X hP (by decide) hM0 rfl) (ct_pre X hP hD (fr_lt 17 84 66 (by omega)) (fr_inj 17 66)) ct_blind hl.1 (Nat.le_of_ble_eq_true rfl) dLW_law_538 ⟨by decide, by decide⟩) hD hP hS (fr_lt 17 84 66 (by omega)) (fr_inj 17 66) (fun o E1 h => ⟨_, h.1⟩) (fun r2 E2 H locs k2 hD hP hS => ?_)
        have er := ret_i k2.1
        subst er
        refine lv_icmp_eq (tgt := 546) hx hb dLW_law_541 rfl (fun _ => ?_) (fun h => absurd rfl h)
        exact tail H _ ls _ _ rfl (by decide) (by decide) hS (lv_sub hl [0, 4] rfl)
      · skip
        refine lv_iconst (v := 1) hx hb dLW_law_509 (by decide) ?_
        refine lv_goto (tgt := 514) hx hb dLW_law_510 rfl ?_
        refine x_iE (f := fun k => 0 + k) (x_runV (C := R_RW) (b := s.heap.size + 0) (As := [.int (xs 1), .int 1]) (rest := []) X (c_RW_again l D tc (fun k => s.heap.size + (0 + k)) (fun k => F (0 + k)) (xs 1) 1 (by simpa only [Nat.zero_add] using hRF)) rfl rfl (by decide) (by decide) w_268 w_1 w_265 w_266 w_267 ry_RW_again (x_recv X hP (by decide) hR0 rfl) (ct_pre X hP hD (fr_lt 66 84 0 (by omega)) (fr_inj 66 0)) ct_blind hl.1 (Nat.le_of_ble_eq_true rfl) dLW_law_514 ⟨by decide, by decide⟩) hD hP hS (fr_lt 66 84 0 (by omega)) (fr_inj 66 0) (fun H locs hD hP hS => ?_)
        refine lv_aload_n hx hb dLW_law_517 rfl (lv_at hl 2 rfl) ?_
        refine lv_aload_n hx hb dLW_law_518 rfl (lv_at hl 4 rfl) ?_
        refine lv_iload hx hb dLW_law_519 (lv_at hl 0 rfl) ?_
        refine lv_iconst (v := 1) hx hb dLW_law_521 (by decide) ?_
        refine lv_iadd hx hb dLW_law_522 ?_
        rw [show ((0 : Int32) + 1) = 1 from by decide]
        refine va_sld hx hb hX hbl hbA hS (by unfold vp_in; decide) dLW_law_523 ?_
        rw [show (1 : Int32).toNatClampNeg = 1 from by decide]
        refine lv_aload_n hx hb dLW_law_524 rfl (lv_at hl 4 rfl) ?_
        refine lv_iload hx hb dLW_law_525 (lv_at hl 0 rfl) ?_
        refine lv_iconst (v := 2) hx hb dLW_law_527 (by decide) ?_
        refine lv_iadd hx hb dLW_law_528 ?_
        rw [show ((0 : Int32) + 2) = 2 from by decide]
        refine va_sld hx hb hX hbl hbA hS (by unfold vp_in; decide) dLW_law_529 ?_
        rw [show (2 : Int32).toNatClampNeg = 2 from by decide]
        refine lv_if_eq (tgt := 537) hx hb dLW_law_530 rfl (fun h => absurd h hc) (fun _ => ?_)
        refine lv_iconst (v := 1) hx hb dLW_law_533 (by decide) ?_
        refine lv_goto (tgt := 538) hx hb dLW_law_534 rfl ?_
        obtain ⟨ic, MA, MJ, hM, z1, z2, z3, z4, z5⟩ := hMF
        have hM0 : F 66 = _ := hM.1
        refine x_i (f := fun k => 66 + k) (x_runV (C := R_MD) (b := s.heap.size + 66) (As := [.int (xs 1), .int 1]) (rest := [.int (if xs 1 = 0 then 0 else -1)]) X (c_MD_again l D tc (fun k => s.heap.size + (66 + k)) (fun k => F (66 + k)) _ _ _ _ (xs 1) 1 hM ) rfl rfl (by decide) (by decide) w_657 w_9 w_654 w_655 w_656 ry_MD_again (x_recv X hP (by decide) hM0 rfl) (ct_pre X hP hD (fr_lt 17 84 66 (by omega)) (fr_inj 17 66)) ct_blind hl.1 (Nat.le_of_ble_eq_true rfl) dLW_law_538 ⟨by decide, by decide⟩) hD hP hS (fr_lt 17 84 66 (by omega)) (fr_inj 17 66) (fun o E1 h => ⟨_, h.1⟩) (fun r2 E2 H locs k2 hD hP hS => ?_)
        have er := ret_i k2.1
        subst er
        refine lv_icmp_eq (tgt := 546) hx hb dLW_law_541 rfl (fun _ => ?_) (fun h => absurd rfl h)
        exact tail H _ ls _ _ rfl (by decide) (by decide) hS (lv_sub hl [0, 4] rfl)
    · refine lv_tableOut (tgt := 546) hx hb dLW_law_39 (by decide) rfl ?_
      exact tail H _ ls _ _ rfl (by decide) (by decide) hS (lv_sub hl [0, 4] rfl)
    · refine lv_tableOut (tgt := 546) hx hb dLW_law_39 (by decide) rfl ?_
      exact tail H _ ls _ _ rfl (by decide) (by decide) hS (lv_sub hl [0, 4] rfl)
    · refine lv_tableOut (tgt := 546) hx hb dLW_law_39 (by decide) rfl ?_
      exact tail H _ ls _ _ rfl (by decide) (by decide) hS (lv_sub hl [0, 4] rfl)
  · exact fin H _ ls 84 3495 0 (by decide) (by decide) hS (lv_sub hl [0, 4] rfl) (h29 hL h5)
