abbrev cLW_law : ByteArray := code
theorem dLW_law_0 : decode cLW_law 0 = .ok (.new 8, 3) := by decide +kernel
theorem dLW_law_3 : decode cLW_law 3 = .ok (.dup, 1) := by decide +kernel
theorem dLW_law_4 : decode cLW_law 4 = .ok (.invokespecial 25, 3) := by decide +kernel
theorem dLW_law_7 : decode cLW_law 7 = .ok (.astore_n 1, 1) := by decide +kernel
theorem dLW_law_8 : decode cLW_law 8 = .ok (.new 26, 3) := by decide +kernel
theorem dLW_law_11 : decode cLW_law 11 = .ok (.dup, 1) := by decide +kernel
theorem dLW_law_12 : decode cLW_law 12 = .ok (.invokespecial 28, 3) := by decide +kernel
theorem dLW_law_15 : decode cLW_law 15 = .ok (.astore_n 2, 1) := by decide +kernel
theorem dLW_law_16 : decode cLW_law 16 = .ok (.iconst 1, 1) := by decide +kernel
theorem dLW_law_17 : decode cLW_law 17 = .ok (.newarray .long, 2) := by decide +kernel
theorem dLW_law_19 : decode cLW_law 19 = .ok (.astore_n 3, 1) := by decide +kernel
theorem dLW_law_20 : decode cLW_law 20 = .ok (.iconst 0, 1) := by decide +kernel
theorem dLW_law_21 : decode cLW_law 21 = .ok (.istore 4, 2) := by decide +kernel
theorem dLW_law_23 : decode cLW_law 23 = .ok (.iload 4, 2) := by decide +kernel
theorem dLW_law_25 : decode cLW_law 25 = .ok (.aload_n 0, 1) := by decide +kernel
theorem dLW_law_26 : decode cLW_law 26 = .ok (.arraylength, 1) := by decide +kernel
theorem dLW_law_27 : decode cLW_law 27 = .ok (.iconst 5, 1) := by decide +kernel
theorem dLW_law_28 : decode cLW_law 28 = .ok (.isub, 1) := by decide +kernel
theorem dLW_law_29 : decode cLW_law 29 = .ok (.if_icmp .gt 494, 3) := by decide +kernel
theorem dLW_law_32 : decode cLW_law 32 = .ok (.aload_n 0, 1) := by decide +kernel
theorem dLW_law_33 : decode cLW_law 33 = .ok (.iload 4, 2) := by decide +kernel
theorem dLW_law_35 : decode cLW_law 35 = .ok (.iaload, 1) := by decide +kernel
theorem dLW_law_36 : decode cLW_law 36 = .ok (.bipush 15, 2) := by decide +kernel
theorem dLW_law_38 : decode cLW_law 38 = .ok (.iand, 1) := by decide +kernel
theorem dLW_law_39 : decode cLW_law 39 = .ok (.tableswitch 478 0 12 #[65, 126, 137, 209, 237, 262, 287, 300, 325, 362, 387, 412, 425], 65) := by decide +kernel
theorem dLW_law_104 : decode cLW_law 104 = .ok (.aload_n 1, 1) := by decide +kernel
theorem dLW_law_105 : decode cLW_law 105 = .ok (.aload_n 0, 1) := by decide +kernel
theorem dLW_law_106 : decode cLW_law 106 = .ok (.iload 4, 2) := by decide +kernel
theorem dLW_law_108 : decode cLW_law 108 = .ok (.iconst 1, 1) := by decide +kernel
theorem dLW_law_109 : decode cLW_law 109 = .ok (.iadd, 1) := by decide +kernel
theorem dLW_law_110 : decode cLW_law 110 = .ok (.iaload, 1) := by decide +kernel
theorem dLW_law_111 : decode cLW_law 111 = .ok (.aload_n 0, 1) := by decide +kernel
theorem dLW_law_112 : decode cLW_law 112 = .ok (.iload 4, 2) := by decide +kernel
theorem dLW_law_114 : decode cLW_law 114 = .ok (.iconst 2, 1) := by decide +kernel
theorem dLW_law_115 : decode cLW_law 115 = .ok (.iadd, 1) := by decide +kernel
theorem dLW_law_116 : decode cLW_law 116 = .ok (.iaload, 1) := by decide +kernel
theorem dLW_law_117 : decode cLW_law 117 = .ok (.aload_n 0, 1) := by decide +kernel
theorem dLW_law_118 : decode cLW_law 118 = .ok (.iload 4, 2) := by decide +kernel
theorem dLW_law_120 : decode cLW_law 120 = .ok (.iconst 3, 1) := by decide +kernel
theorem dLW_law_121 : decode cLW_law 121 = .ok (.iadd, 1) := by decide +kernel
theorem dLW_law_122 : decode cLW_law 122 = .ok (.iaload, 1) := by decide +kernel
theorem dLW_law_123 : decode cLW_law 123 = .ok (.aload_n 0, 1) := by decide +kernel
theorem dLW_law_124 : decode cLW_law 124 = .ok (.iload 4, 2) := by decide +kernel
theorem dLW_law_126 : decode cLW_law 126 = .ok (.iconst 4, 1) := by decide +kernel
theorem dLW_law_127 : decode cLW_law 127 = .ok (.iadd, 1) := by decide +kernel
theorem dLW_law_128 : decode cLW_law 128 = .ok (.iaload, 1) := by decide +kernel
theorem dLW_law_129 : decode cLW_law 129 = .ok (.invokevirtual 29, 3) := by decide +kernel
theorem dLW_law_132 : decode cLW_law 132 = .ok (.pop, 1) := by decide +kernel
theorem dLW_law_133 : decode cLW_law 133 = .ok (.aload_n 2, 1) := by decide +kernel
theorem dLW_law_134 : decode cLW_law 134 = .ok (.aload_n 0, 1) := by decide +kernel
theorem dLW_law_135 : decode cLW_law 135 = .ok (.iload 4, 2) := by decide +kernel
theorem dLW_law_137 : decode cLW_law 137 = .ok (.iconst 1, 1) := by decide +kernel
theorem dLW_law_138 : decode cLW_law 138 = .ok (.iadd, 1) := by decide +kernel
theorem dLW_law_139 : decode cLW_law 139 = .ok (.iaload, 1) := by decide +kernel
theorem dLW_law_140 : decode cLW_law 140 = .ok (.aload_n 0, 1) := by decide +kernel
theorem dLW_law_141 : decode cLW_law 141 = .ok (.iload 4, 2) := by decide +kernel
theorem dLW_law_143 : decode cLW_law 143 = .ok (.iconst 2, 1) := by decide +kernel
theorem dLW_law_144 : decode cLW_law 144 = .ok (.iadd, 1) := by decide +kernel
theorem dLW_law_145 : decode cLW_law 145 = .ok (.iaload, 1) := by decide +kernel
theorem dLW_law_146 : decode cLW_law 146 = .ok (.aload_n 0, 1) := by decide +kernel
theorem dLW_law_147 : decode cLW_law 147 = .ok (.iload 4, 2) := by decide +kernel
theorem dLW_law_149 : decode cLW_law 149 = .ok (.iconst 3, 1) := by decide +kernel
theorem dLW_law_150 : decode cLW_law 150 = .ok (.iadd, 1) := by decide +kernel
theorem dLW_law_151 : decode cLW_law 151 = .ok (.iaload, 1) := by decide +kernel
theorem dLW_law_152 : decode cLW_law 152 = .ok (.aload_n 0, 1) := by decide +kernel
theorem dLW_law_153 : decode cLW_law 153 = .ok (.iload 4, 2) := by decide +kernel
theorem dLW_law_155 : decode cLW_law 155 = .ok (.iconst 4, 1) := by decide +kernel
theorem dLW_law_156 : decode cLW_law 156 = .ok (.iadd, 1) := by decide +kernel
theorem dLW_law_157 : decode cLW_law 157 = .ok (.iaload, 1) := by decide +kernel
theorem dLW_law_158 : decode cLW_law 158 = .ok (.invokevirtual 33, 3) := by decide +kernel
theorem dLW_law_161 : decode cLW_law 161 = .ok (.pop, 1) := by decide +kernel
theorem dLW_law_162 : decode cLW_law 162 = .ok (.goto 355, 3) := by decide +kernel
theorem dLW_law_165 : decode cLW_law 165 = .ok (.aload_n 1, 1) := by decide +kernel
theorem dLW_law_166 : decode cLW_law 166 = .ok (.invokevirtual 34, 3) := by decide +kernel
theorem dLW_law_169 : decode cLW_law 169 = .ok (.aload_n 2, 1) := by decide +kernel
theorem dLW_law_170 : decode cLW_law 170 = .ok (.invokevirtual 37, 3) := by decide +kernel
theorem dLW_law_173 : decode cLW_law 173 = .ok (.goto 344, 3) := by decide +kernel
theorem dLW_law_176 : decode cLW_law 176 = .ok (.aload_n 1, 1) := by decide +kernel
theorem dLW_law_177 : decode cLW_law 177 = .ok (.aload_n 0, 1) := by decide +kernel
theorem dLW_law_178 : decode cLW_law 178 = .ok (.iload 4, 2) := by decide +kernel
theorem dLW_law_180 : decode cLW_law 180 = .ok (.iconst 1, 1) := by decide +kernel
theorem dLW_law_181 : decode cLW_law 181 = .ok (.iadd, 1) := by decide +kernel
theorem dLW_law_182 : decode cLW_law 182 = .ok (.iaload, 1) := by decide +kernel
theorem dLW_law_183 : decode cLW_law 183 = .ok (.ifCond .eq 7, 3) := by decide +kernel
theorem dLW_law_186 : decode cLW_law 186 = .ok (.iconst 1, 1) := by decide +kernel
theorem dLW_law_187 : decode cLW_law 187 = .ok (.goto 4, 3) := by decide +kernel
theorem dLW_law_190 : decode cLW_law 190 = .ok (.iconst 0, 1) := by decide +kernel
theorem dLW_law_191 : decode cLW_law 191 = .ok (.aload_n 3, 1) := by decide +kernel
theorem dLW_law_192 : decode cLW_law 192 = .ok (.invokestatic 38, 3) := by decide +kernel
theorem dLW_law_195 : decode cLW_law 195 = .ok (.istore 5, 2) := by decide +kernel
theorem dLW_law_197 : decode cLW_law 197 = .ok (.aload_n 2, 1) := by decide +kernel
theorem dLW_law_198 : decode cLW_law 198 = .ok (.aload_n 0, 1) := by decide +kernel
theorem dLW_law_199 : decode cLW_law 199 = .ok (.iload 4, 2) := by decide +kernel
theorem dLW_law_201 : decode cLW_law 201 = .ok (.iconst 1, 1) := by decide +kernel
theorem dLW_law_202 : decode cLW_law 202 = .ok (.iadd, 1) := by decide +kernel
theorem dLW_law_203 : decode cLW_law 203 = .ok (.iaload, 1) := by decide +kernel
theorem dLW_law_204 : decode cLW_law 204 = .ok (.ifCond .eq 7, 3) := by decide +kernel
theorem dLW_law_207 : decode cLW_law 207 = .ok (.iconst 1, 1) := by decide +kernel
theorem dLW_law_208 : decode cLW_law 208 = .ok (.goto 4, 3) := by decide +kernel
theorem dLW_law_211 : decode cLW_law 211 = .ok (.iconst 0, 1) := by decide +kernel
theorem dLW_law_212 : decode cLW_law 212 = .ok (.invokevirtual 43, 3) := by decide +kernel
theorem dLW_law_215 : decode cLW_law 215 = .ok (.istore 6, 2) := by decide +kernel
theorem dLW_law_217 : decode cLW_law 217 = .ok (.aload_n 2, 1) := by decide +kernel
theorem dLW_law_218 : decode cLW_law 218 = .ok (.invokevirtual 44, 3) := by decide +kernel
theorem dLW_law_221 : decode cLW_law 221 = .ok (.iload 5, 2) := by decide +kernel
theorem dLW_law_223 : decode cLW_law 223 = .ok (.if_icmp .eq 5, 3) := by decide +kernel
theorem dLW_law_226 : decode cLW_law 226 = .ok (.iconst 0, 1) := by decide +kernel
theorem dLW_law_227 : decode cLW_law 227 = .ok (.ireturn, 1) := by decide +kernel
theorem dLW_law_228 : decode cLW_law 228 = .ok (.iload 5, 2) := by decide +kernel
theorem dLW_law_230 : decode cLW_law 230 = .ok (.ifCond .ne 15, 3) := by decide +kernel
theorem dLW_law_233 : decode cLW_law 233 = .ok (.aload_n 3, 1) := by decide +kernel
theorem dLW_law_234 : decode cLW_law 234 = .ok (.iconst 0, 1) := by decide +kernel
theorem dLW_law_235 : decode cLW_law 235 = .ok (.laload, 1) := by decide +kernel
theorem dLW_law_236 : decode cLW_law 236 = .ok (.iload 6, 2) := by decide +kernel
theorem dLW_law_238 : decode cLW_law 238 = .ok (.i2l, 1) := by decide +kernel
theorem dLW_law_239 : decode cLW_law 239 = .ok (.lcmp, 1) := by decide +kernel
theorem dLW_law_240 : decode cLW_law 240 = .ok (.ifCond .eq 5, 3) := by decide +kernel
theorem dLW_law_243 : decode cLW_law 243 = .ok (.iconst 0, 1) := by decide +kernel
theorem dLW_law_244 : decode cLW_law 244 = .ok (.ireturn, 1) := by decide +kernel
theorem dLW_law_245 : decode cLW_law 245 = .ok (.goto 272, 3) := by decide +kernel
theorem dLW_law_248 : decode cLW_law 248 = .ok (.aload_n 1, 1) := by decide +kernel
theorem dLW_law_249 : decode cLW_law 249 = .ok (.aload_n 0, 1) := by decide +kernel
theorem dLW_law_250 : decode cLW_law 250 = .ok (.iload 4, 2) := by decide +kernel
theorem dLW_law_252 : decode cLW_law 252 = .ok (.iconst 1, 1) := by decide +kernel
theorem dLW_law_253 : decode cLW_law 253 = .ok (.iadd, 1) := by decide +kernel
theorem dLW_law_254 : decode cLW_law 254 = .ok (.iaload, 1) := by decide +kernel
theorem dLW_law_255 : decode cLW_law 255 = .ok (.aload_n 3, 1) := by decide +kernel
theorem dLW_law_256 : decode cLW_law 256 = .ok (.invokestatic 48, 3) := by decide +kernel
theorem dLW_law_259 : decode cLW_law 259 = .ok (.istore 5, 2) := by decide +kernel
theorem dLW_law_261 : decode cLW_law 261 = .ok (.aload_n 2, 1) := by decide +kernel
theorem dLW_law_262 : decode cLW_law 262 = .ok (.aload_n 0, 1) := by decide +kernel
theorem dLW_law_263 : decode cLW_law 263 = .ok (.iload 4, 2) := by decide +kernel
theorem dLW_law_265 : decode cLW_law 265 = .ok (.iconst 1, 1) := by decide +kernel
theorem dLW_law_266 : decode cLW_law 266 = .ok (.iadd, 1) := by decide +kernel
theorem dLW_law_267 : decode cLW_law 267 = .ok (.iaload, 1) := by decide +kernel
theorem dLW_law_268 : decode cLW_law 268 = .ok (.invokevirtual 51, 3) := by decide +kernel
theorem dLW_law_271 : decode cLW_law 271 = .ok (.istore 6, 2) := by decide +kernel
theorem dLW_law_273 : decode cLW_law 273 = .ok (.goto 244, 3) := by decide +kernel
theorem dLW_law_276 : decode cLW_law 276 = .ok (.aload_n 1, 1) := by decide +kernel
theorem dLW_law_277 : decode cLW_law 277 = .ok (.aload_n 0, 1) := by decide +kernel
theorem dLW_law_278 : decode cLW_law 278 = .ok (.iload 4, 2) := by decide +kernel
theorem dLW_law_280 : decode cLW_law 280 = .ok (.iconst 1, 1) := by decide +kernel
theorem dLW_law_281 : decode cLW_law 281 = .ok (.iadd, 1) := by decide +kernel
theorem dLW_law_282 : decode cLW_law 282 = .ok (.iaload, 1) := by decide +kernel
theorem dLW_law_283 : decode cLW_law 283 = .ok (.invokevirtual 52, 3) := by decide +kernel
theorem dLW_law_286 : decode cLW_law 286 = .ok (.pop2, 1) := by decide +kernel
theorem dLW_law_287 : decode cLW_law 287 = .ok (.aload_n 2, 1) := by decide +kernel
theorem dLW_law_288 : decode cLW_law 288 = .ok (.aload_n 0, 1) := by decide +kernel
theorem dLW_law_289 : decode cLW_law 289 = .ok (.iload 4, 2) := by decide +kernel
theorem dLW_law_291 : decode cLW_law 291 = .ok (.iconst 1, 1) := by decide +kernel
theorem dLW_law_292 : decode cLW_law 292 = .ok (.iadd, 1) := by decide +kernel
theorem dLW_law_293 : decode cLW_law 293 = .ok (.iaload, 1) := by decide +kernel
theorem dLW_law_294 : decode cLW_law 294 = .ok (.invokevirtual 56, 3) := by decide +kernel
theorem dLW_law_297 : decode cLW_law 297 = .ok (.pop2, 1) := by decide +kernel
theorem dLW_law_298 : decode cLW_law 298 = .ok (.goto 219, 3) := by decide +kernel
theorem dLW_law_301 : decode cLW_law 301 = .ok (.aload_n 1, 1) := by decide +kernel
theorem dLW_law_302 : decode cLW_law 302 = .ok (.aload_n 0, 1) := by decide +kernel
theorem dLW_law_303 : decode cLW_law 303 = .ok (.iload 4, 2) := by decide +kernel
theorem dLW_law_305 : decode cLW_law 305 = .ok (.iconst 1, 1) := by decide +kernel
theorem dLW_law_306 : decode cLW_law 306 = .ok (.iadd, 1) := by decide +kernel
theorem dLW_law_307 : decode cLW_law 307 = .ok (.iaload, 1) := by decide +kernel
theorem dLW_law_308 : decode cLW_law 308 = .ok (.invokevirtual 57, 3) := by decide +kernel
theorem dLW_law_311 : decode cLW_law 311 = .ok (.pop, 1) := by decide +kernel
theorem dLW_law_312 : decode cLW_law 312 = .ok (.aload_n 2, 1) := by decide +kernel
theorem dLW_law_313 : decode cLW_law 313 = .ok (.aload_n 0, 1) := by decide +kernel
theorem dLW_law_314 : decode cLW_law 314 = .ok (.iload 4, 2) := by decide +kernel
theorem dLW_law_316 : decode cLW_law 316 = .ok (.iconst 1, 1) := by decide +kernel
theorem dLW_law_317 : decode cLW_law 317 = .ok (.iadd, 1) := by decide +kernel
theorem dLW_law_318 : decode cLW_law 318 = .ok (.iaload, 1) := by decide +kernel
theorem dLW_law_319 : decode cLW_law 319 = .ok (.invokevirtual 60, 3) := by decide +kernel
theorem dLW_law_322 : decode cLW_law 322 = .ok (.pop, 1) := by decide +kernel
theorem dLW_law_323 : decode cLW_law 323 = .ok (.goto 194, 3) := by decide +kernel
theorem dLW_law_326 : decode cLW_law 326 = .ok (.aload_n 1, 1) := by decide +kernel
theorem dLW_law_327 : decode cLW_law 327 = .ok (.invokevirtual 61, 3) := by decide +kernel
theorem dLW_law_330 : decode cLW_law 330 = .ok (.pop, 1) := by decide +kernel
theorem dLW_law_331 : decode cLW_law 331 = .ok (.aload_n 2, 1) := by decide +kernel
theorem dLW_law_332 : decode cLW_law 332 = .ok (.invokevirtual 64, 3) := by decide +kernel
theorem dLW_law_335 : decode cLW_law 335 = .ok (.pop, 1) := by decide +kernel
theorem dLW_law_336 : decode cLW_law 336 = .ok (.goto 181, 3) := by decide +kernel
theorem dLW_law_339 : decode cLW_law 339 = .ok (.aload_n 1, 1) := by decide +kernel
theorem dLW_law_340 : decode cLW_law 340 = .ok (.aload_n 0, 1) := by decide +kernel
theorem dLW_law_341 : decode cLW_law 341 = .ok (.iload 4, 2) := by decide +kernel
theorem dLW_law_343 : decode cLW_law 343 = .ok (.iconst 1, 1) := by decide +kernel
theorem dLW_law_344 : decode cLW_law 344 = .ok (.iadd, 1) := by decide +kernel
theorem dLW_law_345 : decode cLW_law 345 = .ok (.iaload, 1) := by decide +kernel
theorem dLW_law_346 : decode cLW_law 346 = .ok (.invokevirtual 65, 3) := by decide +kernel
theorem dLW_law_349 : decode cLW_law 349 = .ok (.pop, 1) := by decide +kernel
theorem dLW_law_350 : decode cLW_law 350 = .ok (.aload_n 2, 1) := by decide +kernel
theorem dLW_law_351 : decode cLW_law 351 = .ok (.aload_n 0, 1) := by decide +kernel
theorem dLW_law_352 : decode cLW_law 352 = .ok (.iload 4, 2) := by decide +kernel
theorem dLW_law_354 : decode cLW_law 354 = .ok (.iconst 1, 1) := by decide +kernel
theorem dLW_law_355 : decode cLW_law 355 = .ok (.iadd, 1) := by decide +kernel
theorem dLW_law_356 : decode cLW_law 356 = .ok (.iaload, 1) := by decide +kernel
theorem dLW_law_357 : decode cLW_law 357 = .ok (.invokevirtual 68, 3) := by decide +kernel
theorem dLW_law_360 : decode cLW_law 360 = .ok (.pop, 1) := by decide +kernel
theorem dLW_law_361 : decode cLW_law 361 = .ok (.goto 156, 3) := by decide +kernel
theorem dLW_law_364 : decode cLW_law 364 = .ok (.aload_n 1, 1) := by decide +kernel
theorem dLW_law_365 : decode cLW_law 365 = .ok (.aload_n 0, 1) := by decide +kernel
theorem dLW_law_366 : decode cLW_law 366 = .ok (.iload 4, 2) := by decide +kernel
theorem dLW_law_368 : decode cLW_law 368 = .ok (.iconst 1, 1) := by decide +kernel
theorem dLW_law_369 : decode cLW_law 369 = .ok (.iadd, 1) := by decide +kernel
theorem dLW_law_370 : decode cLW_law 370 = .ok (.iaload, 1) := by decide +kernel
theorem dLW_law_371 : decode cLW_law 371 = .ok (.aload_n 0, 1) := by decide +kernel
theorem dLW_law_372 : decode cLW_law 372 = .ok (.iload 4, 2) := by decide +kernel
theorem dLW_law_374 : decode cLW_law 374 = .ok (.iconst 2, 1) := by decide +kernel
theorem dLW_law_375 : decode cLW_law 375 = .ok (.iadd, 1) := by decide +kernel
theorem dLW_law_376 : decode cLW_law 376 = .ok (.iaload, 1) := by decide +kernel
theorem dLW_law_377 : decode cLW_law 377 = .ok (.invokevirtual 69, 3) := by decide +kernel
theorem dLW_law_380 : decode cLW_law 380 = .ok (.pop, 1) := by decide +kernel
theorem dLW_law_381 : decode cLW_law 381 = .ok (.aload_n 2, 1) := by decide +kernel
theorem dLW_law_382 : decode cLW_law 382 = .ok (.aload_n 0, 1) := by decide +kernel
theorem dLW_law_383 : decode cLW_law 383 = .ok (.iload 4, 2) := by decide +kernel
theorem dLW_law_385 : decode cLW_law 385 = .ok (.iconst 1, 1) := by decide +kernel
theorem dLW_law_386 : decode cLW_law 386 = .ok (.iadd, 1) := by decide +kernel
theorem dLW_law_387 : decode cLW_law 387 = .ok (.iaload, 1) := by decide +kernel
theorem dLW_law_388 : decode cLW_law 388 = .ok (.aload_n 0, 1) := by decide +kernel
theorem dLW_law_389 : decode cLW_law 389 = .ok (.iload 4, 2) := by decide +kernel
theorem dLW_law_391 : decode cLW_law 391 = .ok (.iconst 2, 1) := by decide +kernel
theorem dLW_law_392 : decode cLW_law 392 = .ok (.iadd, 1) := by decide +kernel
theorem dLW_law_393 : decode cLW_law 393 = .ok (.iaload, 1) := by decide +kernel
theorem dLW_law_394 : decode cLW_law 394 = .ok (.invokevirtual 73, 3) := by decide +kernel
theorem dLW_law_397 : decode cLW_law 397 = .ok (.pop, 1) := by decide +kernel
theorem dLW_law_398 : decode cLW_law 398 = .ok (.goto 119, 3) := by decide +kernel
theorem dLW_law_401 : decode cLW_law 401 = .ok (.aload_n 1, 1) := by decide +kernel
theorem dLW_law_402 : decode cLW_law 402 = .ok (.aload_n 0, 1) := by decide +kernel
theorem dLW_law_403 : decode cLW_law 403 = .ok (.iload 4, 2) := by decide +kernel
theorem dLW_law_405 : decode cLW_law 405 = .ok (.iconst 1, 1) := by decide +kernel
theorem dLW_law_406 : decode cLW_law 406 = .ok (.iadd, 1) := by decide +kernel
theorem dLW_law_407 : decode cLW_law 407 = .ok (.iaload, 1) := by decide +kernel
theorem dLW_law_408 : decode cLW_law 408 = .ok (.invokevirtual 74, 3) := by decide +kernel
theorem dLW_law_411 : decode cLW_law 411 = .ok (.pop, 1) := by decide +kernel
theorem dLW_law_412 : decode cLW_law 412 = .ok (.aload_n 2, 1) := by decide +kernel
theorem dLW_law_413 : decode cLW_law 413 = .ok (.aload_n 0, 1) := by decide +kernel
theorem dLW_law_414 : decode cLW_law 414 = .ok (.iload 4, 2) := by decide +kernel
theorem dLW_law_416 : decode cLW_law 416 = .ok (.iconst 1, 1) := by decide +kernel
theorem dLW_law_417 : decode cLW_law 417 = .ok (.iadd, 1) := by decide +kernel
theorem dLW_law_418 : decode cLW_law 418 = .ok (.iaload, 1) := by decide +kernel
theorem dLW_law_419 : decode cLW_law 419 = .ok (.invokevirtual 77, 3) := by decide +kernel
theorem dLW_law_422 : decode cLW_law 422 = .ok (.pop, 1) := by decide +kernel
theorem dLW_law_423 : decode cLW_law 423 = .ok (.goto 94, 3) := by decide +kernel
theorem dLW_law_426 : decode cLW_law 426 = .ok (.aload_n 1, 1) := by decide +kernel
theorem dLW_law_427 : decode cLW_law 427 = .ok (.aload_n 0, 1) := by decide +kernel
theorem dLW_law_428 : decode cLW_law 428 = .ok (.iload 4, 2) := by decide +kernel
theorem dLW_law_430 : decode cLW_law 430 = .ok (.iconst 1, 1) := by decide +kernel
theorem dLW_law_431 : decode cLW_law 431 = .ok (.iadd, 1) := by decide +kernel
theorem dLW_law_432 : decode cLW_law 432 = .ok (.iaload, 1) := by decide +kernel
theorem dLW_law_433 : decode cLW_law 433 = .ok (.invokevirtual 78, 3) := by decide +kernel
theorem dLW_law_436 : decode cLW_law 436 = .ok (.pop, 1) := by decide +kernel
theorem dLW_law_437 : decode cLW_law 437 = .ok (.aload_n 2, 1) := by decide +kernel
theorem dLW_law_438 : decode cLW_law 438 = .ok (.aload_n 0, 1) := by decide +kernel
theorem dLW_law_439 : decode cLW_law 439 = .ok (.iload 4, 2) := by decide +kernel
theorem dLW_law_441 : decode cLW_law 441 = .ok (.iconst 1, 1) := by decide +kernel
theorem dLW_law_442 : decode cLW_law 442 = .ok (.iadd, 1) := by decide +kernel
theorem dLW_law_443 : decode cLW_law 443 = .ok (.iaload, 1) := by decide +kernel
theorem dLW_law_444 : decode cLW_law 444 = .ok (.invokevirtual 81, 3) := by decide +kernel
theorem dLW_law_447 : decode cLW_law 447 = .ok (.pop, 1) := by decide +kernel
theorem dLW_law_448 : decode cLW_law 448 = .ok (.goto 69, 3) := by decide +kernel
theorem dLW_law_451 : decode cLW_law 451 = .ok (.aload_n 1, 1) := by decide +kernel
theorem dLW_law_452 : decode cLW_law 452 = .ok (.invokevirtual 82, 3) := by decide +kernel
theorem dLW_law_455 : decode cLW_law 455 = .ok (.pop, 1) := by decide +kernel
theorem dLW_law_456 : decode cLW_law 456 = .ok (.aload_n 2, 1) := by decide +kernel
theorem dLW_law_457 : decode cLW_law 457 = .ok (.invokevirtual 85, 3) := by decide +kernel
theorem dLW_law_460 : decode cLW_law 460 = .ok (.pop, 1) := by decide +kernel
theorem dLW_law_461 : decode cLW_law 461 = .ok (.goto 56, 3) := by decide +kernel
theorem dLW_law_464 : decode cLW_law 464 = .ok (.aload_n 1, 1) := by decide +kernel
theorem dLW_law_465 : decode cLW_law 465 = .ok (.aload_n 0, 1) := by decide +kernel
theorem dLW_law_466 : decode cLW_law 466 = .ok (.iload 4, 2) := by decide +kernel
theorem dLW_law_468 : decode cLW_law 468 = .ok (.iconst 1, 1) := by decide +kernel
theorem dLW_law_469 : decode cLW_law 469 = .ok (.iadd, 1) := by decide +kernel
theorem dLW_law_470 : decode cLW_law 470 = .ok (.iaload, 1) := by decide +kernel
theorem dLW_law_471 : decode cLW_law 471 = .ok (.aload_n 0, 1) := by decide +kernel
theorem dLW_law_472 : decode cLW_law 472 = .ok (.iload 4, 2) := by decide +kernel
theorem dLW_law_474 : decode cLW_law 474 = .ok (.iconst 2, 1) := by decide +kernel
theorem dLW_law_475 : decode cLW_law 475 = .ok (.iadd, 1) := by decide +kernel
theorem dLW_law_476 : decode cLW_law 476 = .ok (.iaload, 1) := by decide +kernel
theorem dLW_law_477 : decode cLW_law 477 = .ok (.ifCond .eq 7, 3) := by decide +kernel
theorem dLW_law_480 : decode cLW_law 480 = .ok (.iconst 1, 1) := by decide +kernel
theorem dLW_law_481 : decode cLW_law 481 = .ok (.goto 4, 3) := by decide +kernel
theorem dLW_law_484 : decode cLW_law 484 = .ok (.iconst 0, 1) := by decide +kernel
theorem dLW_law_485 : decode cLW_law 485 = .ok (.invokevirtual 86, 3) := by decide +kernel
theorem dLW_law_488 : decode cLW_law 488 = .ok (.pop, 1) := by decide +kernel
theorem dLW_law_489 : decode cLW_law 489 = .ok (.aload_n 2, 1) := by decide +kernel
theorem dLW_law_490 : decode cLW_law 490 = .ok (.aload_n 0, 1) := by decide +kernel
theorem dLW_law_491 : decode cLW_law 491 = .ok (.iload 4, 2) := by decide +kernel
theorem dLW_law_493 : decode cLW_law 493 = .ok (.iconst 1, 1) := by decide +kernel
theorem dLW_law_494 : decode cLW_law 494 = .ok (.iadd, 1) := by decide +kernel
theorem dLW_law_495 : decode cLW_law 495 = .ok (.iaload, 1) := by decide +kernel
theorem dLW_law_496 : decode cLW_law 496 = .ok (.aload_n 0, 1) := by decide +kernel
theorem dLW_law_497 : decode cLW_law 497 = .ok (.iload 4, 2) := by decide +kernel
theorem dLW_law_499 : decode cLW_law 499 = .ok (.iconst 2, 1) := by decide +kernel
theorem dLW_law_500 : decode cLW_law 500 = .ok (.iadd, 1) := by decide +kernel
theorem dLW_law_501 : decode cLW_law 501 = .ok (.iaload, 1) := by decide +kernel
theorem dLW_law_502 : decode cLW_law 502 = .ok (.ifCond .eq 7, 3) := by decide +kernel
theorem dLW_law_505 : decode cLW_law 505 = .ok (.iconst 1, 1) := by decide +kernel
theorem dLW_law_506 : decode cLW_law 506 = .ok (.goto 4, 3) := by decide +kernel
theorem dLW_law_509 : decode cLW_law 509 = .ok (.iconst 0, 1) := by decide +kernel
theorem dLW_law_510 : decode cLW_law 510 = .ok (.invokevirtual 90, 3) := by decide +kernel
theorem dLW_law_513 : decode cLW_law 513 = .ok (.pop, 1) := by decide +kernel
theorem dLW_law_514 : decode cLW_law 514 = .ok (.goto 3, 3) := by decide +kernel
theorem dLW_law_517 : decode cLW_law 517 = .ok (.iinc 4 5, 3) := by decide +kernel
theorem dLW_law_520 : decode cLW_law 520 = .ok (.goto (-497), 3) := by decide +kernel
theorem dLW_law_523 : decode cLW_law 523 = .ok (.iconst 1, 1) := by decide +kernel
theorem dLW_law_524 : decode cLW_law 524 = .ok (.ireturn, 1) := by decide +kernel
theorem sub5 {L : Nat} (hL : L ≤ 2560) : (Int32.ofNat L - 5).toInt = (L : Int) - 5 := by
  have h : (Int32.ofNat L).toInt = (L : Int) := nI_toInt (n := L) (by omega)
  rw [Int32.toInt_sub, h, show (5 : Int32).toInt = 5 from by decide]
  apply Int.bmod_eq_of_le <;> omega
theorem h29a {L i : Nat} (hL : L ≤ 2560) (hi : i ≤ L) (h : L < i + 5) : Int32.ofNat L - 5 < nI i := by
  rw [Int32.lt_iff_toInt_lt, sub5 hL, nI_toInt (by omega)]; omega
theorem h29b {L i : Nat} (hL : L ≤ 2560) (h : ¬ L < i + 5) : ¬ Int32.ofNat L - 5 < nI i := by
  rw [Int32.lt_iff_toInt_lt, sub5 hL, nI_toInt (by omega)]; omega
set_option maxHeartbeats 16000000 in
set_option maxRecDepth 100000 in
theorem whole_start {p : Program} {e : Env} {s : State} {m : MethodId} {below : List Frame} {meth : Method} {c : Code} (l : Launch) (hfl : l.flags = pinnedFlags ++ [noTraceFlag]) {b L : Nat} {xs : Nat → Int32} (hL : L ≤ 2560) (C0 : lw_At p s m meth c b L xs) : W p l e room_1 s m #[Value.ref b] below meth c s.heap [] 0 0 (lw_Z below #[Value.ref b] s) (entryFrame m ([Value.ref b] : List Value).toArray 7) := by
  obtain ⟨hx, hb, hr, hml, hown, hts0, hX, hbl, hlk, hgv⟩ := C0
  have hts : ∀ w ∈ WS, w.before #[Value.ref b] s = true := fun w hw => hts0 w (List.mem_filter.mp hw).1
  obtain ⟨D, tc, hK⟩ := K_of hts
  have X : Cx p s m #[Value.ref b] c cLW_law 7 R_LW D tc := ⟨hx, hb, hml, hown, hts, hK⟩
  have hg := flat_of_before _ hgv
  have nc1 : va_Nc "java/lang/IllegalArgumentException" "java/lang/IllegalStateException" s := va_Nc.of (hg _ (by decide +kernel))
  have nc2 : va_Nc "java/lang/IllegalStateException" "java/lang/IndexOutOfBoundsException" s ∧ va_Nc "java/lang/UnsupportedOperationException" "java/lang/IndexOutOfBoundsException" s ∧ va_Nc "java/lang/UnsupportedOperationException" "java/lang/IllegalStateException" s := ⟨va_Nc.of (hg _ (by decide +kernel)), va_Nc.of (hg _ (by decide +kernel)), va_Nc.of (hg _ (by decide +kernel))⟩
  have hTH : TH s := ⟨hts0 (.laysStatic "java/lang/Throwable" "UNASSIGNED_STACK" "[Ljava/lang/StackTraceElement;") (List.mem_append_right _ (by decide +kernel)), hts0 (.laysStatic "java/lang/Throwable" "SUPPRESSED_SENTINEL" "Ljava/util/List;") (List.mem_append_right _ (by decide +kernel)), hg (.isRef (.static "java/lang/Throwable" "UNASSIGNED_STACK" "[Ljava/lang/StackTraceElement;")) (by decide +kernel), hg (.isRef (.static "java/lang/Throwable" "SUPPRESSED_SENTINEL" "Ljava/util/List;")) (by decide +kernel)⟩
  have hbA : ¬ (fun q => s.heap.size ≤ q) b := Nat.not_le.mpr hbl
  have hA : ∀ q, s.heap.size ≤ q → (fun q => s.heap.size ≤ q) q := fun q h => h
  have hDD : ∀ n, ∀ E' : Nat → va_E, va_D (fun q => s.heap.size ≤ q) (wW n (fun k => s.heap.size + k) E') := fun n E' => seqL n E'
  have hS : va_S (fun q => s.heap.size ≤ q) s.heap s.heap [] := va_S.rf
  have hl := lv_entry [Value.ref b] (n := 7) (Nat.le_of_ble_eq_true rfl)
  rw [lg_entry_eq]
  generalize (lg_sl [Value.ref b] ++ List.replicate (7 - (lg_sl [Value.ref b]).length) Slot.unset).toArray = ls at hl ⊢
  have hl : lv_has ls 7 [(0, .ref b)] := hl
  -- the end of the loop, from any state
  have fin : ∀ (H : Heap) (locs : List Loc) (ls : Array Slot) (k n : Nat) (i : Int32), k ≤ 601024 → n ≤ 7293034 → va_S (fun q => s.heap.size ≤ q) s.heap H locs → lv_has ls 7 [(4, .int i), (0, .ref b)] → (Int32.ofNat L - 5 < i) → W p l e room_1 s m #[Value.ref b] below meth c H locs k n (lw_Z below #[Value.ref b] s) (F0 m 23 ls []) := by
    intro H locs ls k n i hk hn hS hl hi
    refine lv_iload hx hb dLW_law_23 (lv_at hl 0 rfl) ?_
    refine lv_aload_n hx hb dLW_law_25 rfl (lv_at hl 1 rfl) ?_
    refine va_slen hx hb hX hbl hbA hS dLW_law_26 ?_
    refine lv_iconst (v := 5) hx hb dLW_law_27 (by decide) ?_
    refine lv_isub hx hb dLW_law_28 ?_
    refine lv_icmp_gt (tgt := 523) hx hb dLW_law_29 rfl (fun _ => ?_) (fun q => absurd hi q)
    refine lv_iconst (v := 1) hx hb dLW_law_523 (by decide) ?_
    refine va_forget (fun q hq => hS.2.2 q hq) ?_
    refine W.widen hk hn ?_
    exact lw_ret hx hb hr hlk dLW_law_524
  have loop : ∀ (r i : Nat), L < i + 5 + 5 * r → i ≤ L → ∀ (H : Heap) (locs : List Loc) (ls : Array Slot) (F : Nat → va_E) (st cs : Int32) (sz : Nat → Nat) (fo fa fb : Nat → Nat → Int32) (th : Int32) (g : Nat → Int64), RI tc (fun k => s.heap.size + k) F st cs sz fo fa fb → MI tc (fun k => s.heap.size + (66 + k)) (fun k => F (66 + k)) th st sz fo fa fb → F 83 = .inl (tc 1, 1, .inr (.inl g)) → va_P D vwCl (wW 84 (fun k => s.heap.size + k) F) H → va_S (fun q => s.heap.size ≤ q) s.heap H locs → lv_has ls 7 [(4, .int (nI i)), (3, .ref (s.heap.size + 83)), (2, .ref (s.heap.size + 66)), (1, .ref (s.heap.size + 0)), (0, .ref b)] → W p l e room_1 s m #[Value.ref b] below meth c H locs (84 + i) (3495 + 6 * i) (lw_Z below #[Value.ref b] s) (F0 m 23 ls []) := by
    intro r
    induction r with
    | zero =>
      intro i h1 h2 H locs ls F st cs sz fo fa fb th g hI hM hO hP hS hl
      exact fin H locs ls _ _ (nI i) (by omega) (by omega) hS (lv_sub hl [0, 4] rfl) (h29a hL h2 (by omega))
    | succ r ih =>
      intro i h1 h2 H locs ls F st cs sz fo fa fb th g hI hM hO hP hS hl
      by_cases h5 : L < i + 5
      · exact fin H locs ls _ _ (nI i) (by omega) (by omega) hS (lv_sub hl [0, 4] rfl) (h29a hL h2 h5)
      have tail : ∀ (k n : Nat), k ≤ 84 + i + 1 → n ≤ 3495 + 6 * i + 6 → ∀ (H : Heap) (locs : List Loc) (ls : Array Slot) (F : Nat → va_E) (st cs : Int32) (sz : Nat → Nat) (fo fa fb : Nat → Nat → Int32) (th : Int32) (g : Nat → Int64), RI tc (fun k => s.heap.size + k) F st cs sz fo fa fb → MI tc (fun k => s.heap.size + (66 + k)) (fun k => F (66 + k)) th st sz fo fa fb → F 83 = .inl (tc 1, 1, .inr (.inl g)) → va_P D vwCl (wW 84 (fun k => s.heap.size + k) F) H → va_S (fun q => s.heap.size ≤ q) s.heap H locs → lv_has ls 7 [(4, .int (nI i)), (3, .ref (s.heap.size + 83)), (2, .ref (s.heap.size + 66)), (1, .ref (s.heap.size + 0)), (0, .ref b)] → W p l e room_1 s m #[Value.ref b] below meth c H locs k n (lw_Z below #[Value.ref b] s) (F0 m 517 ls []) := by
        intro k n hk hn H locs ls F st cs sz fo fa fb th g hI hM hO hP hS hl
        refine lv_iinc (k := 0) (v := nI (i + 5)) hx hb dLW_law_517 hl rfl (nI_add i 5) (by decide) rfl (fun ls hl => ?_)
        refine lv_goto (tgt := 23) hx hb dLW_law_520 rfl ?_
        exact W.widen (by omega) (by omega) (ih (i + 5) (by omega) (by omega) H locs ls F st cs sz fo fa fb th g hI hM hO hP hS hl)
      refine lv_iload hx hb dLW_law_23 (lv_at hl 0 rfl) ?_
      refine lv_aload_n hx hb dLW_law_25 rfl (lv_at hl 4 rfl) ?_
      refine va_slen hx hb hX hbl hbA hS dLW_law_26 ?_
      refine lv_iconst (v := 5) hx hb dLW_law_27 (by decide) ?_
      refine lv_isub hx hb dLW_law_28 ?_
      refine lv_icmp_gt (tgt := 523) hx hb dLW_law_29 rfl (fun h => absurd h (h29b hL h5)) (fun _ => ?_)
      refine lv_aload_n hx hb dLW_law_32 rfl (lv_at hl 4 rfl) ?_
      refine lv_iload hx hb dLW_law_33 (lv_at hl 0 rfl) ?_
      refine va_sld hx hb hX hbl hbA hS (vp_in_nI (show i < L by omega) (by omega)) dLW_law_35 ?_
      rw [nI_clamp (show i < 2 ^ 31 by omega)]
      refine lv_bipush (v := 15) hx hb dLW_law_36 (by decide) ?_
      refine lv_iand hx hb dLW_law_38 ?_
      obtain ⟨j, hj, ej⟩ := sw16 (xs i)
      rw [ej]
      clear ej
      have hD := hDD 84 F
      have hR0 : F 0 = _ := hI.1.1
      have hs : ∀ t, t < 5 → sz t ≤ 12 := fun t ht => (hI.2.2.2.2.2.2.1 t ht).1
      rcases (by omega : j = 0 ∨ j = 1 ∨ j = 2 ∨ j = 3 ∨ j = 4 ∨ j = 5 ∨ j = 6 ∨ j = 7 ∨ j = 8 ∨ j = 9 ∨ j = 10 ∨ j = 11 ∨ j = 12 ∨ j = 13 ∨ j = 14 ∨ j = 15) with rfl | rfl | rfl | rfl | rfl | rfl | rfl | rfl | rfl | rfl | rfl | rfl | rfl | rfl | rfl | rfl
      · refine lv_tableIn (tgt := 104) hx hb dLW_law_39 (by decide) (by decide) rfl rfl ?_
        refine lv_aload_n hx hb dLW_law_104 rfl (lv_at hl 3 rfl) ?_
        refine lv_aload_n hx hb dLW_law_105 rfl (lv_at hl 4 rfl) ?_
        refine lv_iload hx hb dLW_law_106 (lv_at hl 0 rfl) ?_
        refine lv_iconst (v := 1) hx hb dLW_law_108 (by decide) ?_
        refine lv_iadd hx hb dLW_law_109 ?_
        rw [show (nI i + (1 : Int32)) = nI (i + 1) from nI_add i 1]
        refine va_sld hx hb hX hbl hbA hS (vp_in_nI (show (i + 1) < L by omega) (by omega)) dLW_law_110 ?_
        rw [nI_clamp (show (i + 1) < 2 ^ 31 by omega)]
        refine lv_aload_n hx hb dLW_law_111 rfl (lv_at hl 4 rfl) ?_
        refine lv_iload hx hb dLW_law_112 (lv_at hl 0 rfl) ?_
        refine lv_iconst (v := 2) hx hb dLW_law_114 (by decide) ?_
        refine lv_iadd hx hb dLW_law_115 ?_
        rw [show (nI i + (2 : Int32)) = nI (i + 2) from nI_add i 2]
        refine va_sld hx hb hX hbl hbA hS (vp_in_nI (show (i + 2) < L by omega) (by omega)) dLW_law_116 ?_
        rw [nI_clamp (show (i + 2) < 2 ^ 31 by omega)]
        refine lv_aload_n hx hb dLW_law_117 rfl (lv_at hl 4 rfl) ?_
        refine lv_iload hx hb dLW_law_118 (lv_at hl 0 rfl) ?_
        refine lv_iconst (v := 3) hx hb dLW_law_120 (by decide) ?_
        refine lv_iadd hx hb dLW_law_121 ?_
        rw [show (nI i + (3 : Int32)) = nI (i + 3) from nI_add i 3]
        refine va_sld hx hb hX hbl hbA hS (vp_in_nI (show (i + 3) < L by omega) (by omega)) dLW_law_122 ?_
        rw [nI_clamp (show (i + 3) < 2 ^ 31 by omega)]
        refine lv_aload_n hx hb dLW_law_123 rfl (lv_at hl 4 rfl) ?_
        refine lv_iload hx hb dLW_law_124 (lv_at hl 0 rfl) ?_
        refine lv_iconst (v := 4) hx hb dLW_law_126 (by decide) ?_
        refine lv_iadd hx hb dLW_law_127 ?_
        rw [show (nI i + (4 : Int32)) = nI (i + 4) from nI_add i 4]
        refine va_sld hx hb hX hbl hbA hS (vp_in_nI (show (i + 4) < L by omega) (by omega)) dLW_law_128 ?_
        rw [nI_clamp (show (i + 4) < 2 ^ 31 by omega)]
        refine x_i (f := fun k => 0 + k) (x_runV (C := R_RW) (b := s.heap.size + 0) (As := [.int (xs (i + 1)), .int (xs (i + 2)), .int (xs (i + 3)), .int (xs (i + 4))]) (rest := []) X (c_RW_add l D tc (fun k => s.heap.size + (0 + k)) (fun k => F (0 + k)) st cs sz fo fa fb (xs (i + 1)) (xs (i + 2)) (xs (i + 3)) (xs (i + 4)) (by simpa only [Nat.zero_add] using hI.1) (by simpa only [Nat.zero_add] using hI.2.1) hs) rfl rfl (by decide) (by decide) w_154 w_1 w_151 w_152 w_153 ry_RW_add (x_recv X hP (by decide) hR0 rfl) (ct_pre X hP hD (fr_lt 66 84 0 (by omega)) (fr_inj 66 0)) ct_blind hl.1 (Nat.le_of_ble_eq_true rfl) dLW_law_129 ⟨by show _ ≤ 601024; omega, by show _ ≤ 7293034; omega⟩) hD hP hS (fr_lt 66 84 0 (by omega)) (fr_inj 66 0) (fun o E1 h => ⟨_, h.1⟩) (fun r1 E1 H locs k1 hD hP hS => ?_)
        obtain ⟨k1, k1b⟩ := k1
        have er := ret_i k1
        subst er
        generalize g8 : wU 66 (fun k => 0 + k) F E1 = F1 at hD hP
        have hIa : RI tc (fun k => s.heap.size + k) F1 st cs (aS st sz (xs (i + 1)) (xs (i + 2)) (xs (i + 3))) (aF st sz (xs (i + 1)) (xs (i + 2)) (xs (i + 3)) fo (xs (i + 2))) (aF st sz (xs (i + 1)) (xs (i + 2)) (xs (i + 3)) fa (xs (i + 3))) (aF st sz (xs (i + 1)) (xs (i + 2)) (xs (i + 3)) fb (xs (i + 4))) := by rw [← g8]; exact RI.back (RI.add (by simpa only [Nat.zero_add] using hI) k1b)
        have hM : MI tc (fun k => s.heap.size + (66 + k)) (fun k => F1 (66 + k)) th st sz fo fa fb := hM.cong (fun k hk => by show F1 (66 + k) = F (66 + k); rw [← g8]; exact wU_far (Or.inr (by omega)))
        have hO : F1 83 = .inl (tc 1, 1, .inr (.inl g)) := by rw [← g8, wU_far (Or.inr (by omega))]; exact hO
        have hI := hIa
        clear hIa g8 k1 k1b hR0
        refine lv_pop hx hb dLW_law_132 rfl ?_
        refine lv_aload_n hx hb dLW_law_133 rfl (lv_at hl 2 rfl) ?_
        refine lv_aload_n hx hb dLW_law_134 rfl (lv_at hl 4 rfl) ?_
        refine lv_iload hx hb dLW_law_135 (lv_at hl 0 rfl) ?_
        refine lv_iconst (v := 1) hx hb dLW_law_137 (by decide) ?_
        refine lv_iadd hx hb dLW_law_138 ?_
        rw [show (nI i + (1 : Int32)) = nI (i + 1) from nI_add i 1]
        refine va_sld hx hb hX hbl hbA hS (vp_in_nI (show (i + 1) < L by omega) (by omega)) dLW_law_139 ?_
        rw [nI_clamp (show (i + 1) < 2 ^ 31 by omega)]
        refine lv_aload_n hx hb dLW_law_140 rfl (lv_at hl 4 rfl) ?_
        refine lv_iload hx hb dLW_law_141 (lv_at hl 0 rfl) ?_
        refine lv_iconst (v := 2) hx hb dLW_law_143 (by decide) ?_
        refine lv_iadd hx hb dLW_law_144 ?_
        rw [show (nI i + (2 : Int32)) = nI (i + 2) from nI_add i 2]
        refine va_sld hx hb hX hbl hbA hS (vp_in_nI (show (i + 2) < L by omega) (by omega)) dLW_law_145 ?_
        rw [nI_clamp (show (i + 2) < 2 ^ 31 by omega)]
        refine lv_aload_n hx hb dLW_law_146 rfl (lv_at hl 4 rfl) ?_
        refine lv_iload hx hb dLW_law_147 (lv_at hl 0 rfl) ?_
        refine lv_iconst (v := 3) hx hb dLW_law_149 (by decide) ?_
        refine lv_iadd hx hb dLW_law_150 ?_
        rw [show (nI i + (3 : Int32)) = nI (i + 3) from nI_add i 3]
        refine va_sld hx hb hX hbl hbA hS (vp_in_nI (show (i + 3) < L by omega) (by omega)) dLW_law_151 ?_
        rw [nI_clamp (show (i + 3) < 2 ^ 31 by omega)]
        refine lv_aload_n hx hb dLW_law_152 rfl (lv_at hl 4 rfl) ?_
        refine lv_iload hx hb dLW_law_153 (lv_at hl 0 rfl) ?_
        refine lv_iconst (v := 4) hx hb dLW_law_155 (by decide) ?_
        refine lv_iadd hx hb dLW_law_156 ?_
        rw [show (nI i + (4 : Int32)) = nI (i + 4) from nI_add i 4]
        refine va_sld hx hb hX hbl hbA hS (vp_in_nI (show (i + 4) < L by omega) (by omega)) dLW_law_157 ?_
        rw [nI_clamp (show (i + 4) < 2 ^ 31 by omega)]
        obtain ⟨ic, cn, MA, MJ, hm, hc, q1, q2, q5⟩ := hM
        have hM0 : F1 66 = _ := hm.1
        refine x_i (f := fun k => 66 + k) (x_runV (C := R_MD) (b := s.heap.size + 66) (As := [.int (xs (i + 1)), .int (xs (i + 2)), .int (xs (i + 3)), .int (xs (i + 4))]) (rest := []) X (c_MD_add l D tc (fun k => s.heap.size + (66 + k)) (fun k => F1 (66 + k)) _ _ _ _ _ _ sz (xs (i + 1)) (xs (i + 2)) (xs (i + 3)) (xs (i + 4)) hm q1 hs) rfl rfl (by decide) (by decide) w_548 w_9 w_545 w_546 w_547 ry_MD_add (x_recv X hP (by decide) hM0 rfl) (ct_pre X hP hD (fr_lt 17 84 66 (by omega)) (fr_inj 17 66)) ct_blind hl.1 (Nat.le_of_ble_eq_true rfl) dLW_law_158 ⟨by show _ ≤ 601024; omega, by show _ ≤ 7293034; omega⟩) hD hP hS (fr_lt 17 84 66 (by omega)) (fr_inj 17 66) (fun o E1 h => ⟨_, h.1⟩) (fun r2 E2 H locs k2 hD hP hS => ?_)
        obtain ⟨k2, k2b⟩ := k2
        have er := ret_i k2
        subst er
        generalize g9 : wU 17 (fun k => 66 + k) F1 E2 = F2 at hD hP
        have hI : RI tc (fun k => s.heap.size + k) F2 st cs (aS st sz (xs (i + 1)) (xs (i + 2)) (xs (i + 3))) (aF st sz (xs (i + 1)) (xs (i + 2)) (xs (i + 3)) fo (xs (i + 2))) (aF st sz (xs (i + 1)) (xs (i + 2)) (xs (i + 3)) fa (xs (i + 3))) (aF st sz (xs (i + 1)) (xs (i + 2)) (xs (i + 3)) fb (xs (i + 4))) := hI.cong (fun k hk => by rw [← g9]; exact wU_far (Or.inl (by omega)))
        have hO : F2 83 = .inl (tc 1, 1, .inr (.inl g)) := by rw [← g9, wU_far (Or.inr (by omega))]; exact hO
        have hM : MI tc (fun k => s.heap.size + (66 + k)) (fun k => F2 (66 + k)) 0 st (aS st sz (xs (i + 1)) (xs (i + 2)) (xs (i + 3))) (aF st sz (xs (i + 1)) (xs (i + 2)) (xs (i + 3)) fo (xs (i + 2))) (aF st sz (xs (i + 1)) (xs (i + 2)) (xs (i + 3)) fa (xs (i + 3))) (aF st sz (xs (i + 1)) (xs (i + 2)) (xs (i + 3)) fb (xs (i + 4))) := (MI.add hc hs q1 q2 q5 k2b).cong (fun k hk => by show F2 (66 + k) = E2 k; rw [← g9]; exact wU_own k hk)
        refine lv_pop hx hb dLW_law_161 rfl ?_
        refine lv_goto (tgt := 517) hx hb dLW_law_162 rfl ?_
        exact tail _ _ (by omega) (by omega) H _ ls F2 st cs (aS st sz (xs (i + 1)) (xs (i + 2)) (xs (i + 3))) (aF st sz (xs (i + 1)) (xs (i + 2)) (xs (i + 3)) fo (xs (i + 2))) (aF st sz (xs (i + 1)) (xs (i + 2)) (xs (i + 3)) fa (xs (i + 3))) (aF st sz (xs (i + 1)) (xs (i + 2)) (xs (i + 3)) fb (xs (i + 4))) 0 g hI hM hO hP hS hl
      · refine lv_tableIn (tgt := 165) hx hb dLW_law_39 (by decide) (by decide) rfl rfl ?_
        refine lv_aload_n hx hb dLW_law_165 rfl (lv_at hl 3 rfl) ?_
        refine x_v (f := fun k => 0 + k) (x_runV (C := R_RW) (b := s.heap.size + 0) (As := []) (rest := []) X (c_RW_clear l D tc (fun k => s.heap.size + (0 + k)) (fun k => F (0 + k)) st cs (by simpa only [Nat.zero_add] using hI.x)) rfl rfl (by decide) (by decide) w_175 w_1 w_172 w_173 w_174 ry_RW_clear (x_recv X hP (by decide) hR0 rfl) (ct_pre X hP hD (fr_lt 66 84 0 (by omega)) (fr_inj 66 0)) ct_blind hl.1 (Nat.le_of_ble_eq_true rfl) dLW_law_166 ⟨by show _ ≤ 601024; omega, by show _ ≤ 7293034; omega⟩) hD hP hS (fr_lt 66 84 0 (by omega)) (fr_inj 66 0) (fun o E1 h => h.1) (fun E1 H locs k1 hD hP hS => ?_)
        generalize g8 : wU 66 (fun k => 0 + k) F E1 = F1 at hD hP
        obtain ⟨fo1, fa1, fb1, hIa⟩ : ∃ fo fa fb : Nat → Nat → Int32, RI tc (fun k => s.heap.size + k) F1 0 0 (fun _ => 0) fo fa fb := by obtain ⟨a, b, c, h⟩ := RWf.ri k1.2; exact ⟨a, b, c, by rw [← g8]; exact RI.back h⟩
        have hM : MI tc (fun k => s.heap.size + (66 + k)) (fun k => F1 (66 + k)) th st sz fo fa fb := hM.cong (fun k hk => by show F1 (66 + k) = F (66 + k); rw [← g8]; exact wU_far (Or.inr (by omega)))
        have hO : F1 83 = .inl (tc 1, 1, .inr (.inl g)) := by rw [← g8, wU_far (Or.inr (by omega))]; exact hO
        clear g8 k1 hR0
        refine lv_aload_n hx hb dLW_law_169 rfl (lv_at hl 2 rfl) ?_
        obtain ⟨ic, cn, MA, MJ, hm, hc, q1, q2, q5⟩ := hM
        have hM0 : F1 66 = _ := hm.1
        refine x_v (f := fun k => 66 + k) (x_runV (C := R_MD) (b := s.heap.size + 66) (As := []) (rest := []) X (c_MD_clear l D tc (fun k => s.heap.size + (66 + k)) (fun k => F1 (66 + k)) _ _ _ _ _ _ hm) rfl rfl (by decide) (by decide) w_498 w_9 w_555 w_496 w_497 ry_MD_clear (x_recv X hP (by decide) hM0 rfl) (ct_pre X hP hD (fr_lt 17 84 66 (by omega)) (fr_inj 17 66)) ct_blind hl.1 (Nat.le_of_ble_eq_true rfl) dLW_law_170 ⟨by show _ ≤ 601024; omega, by show _ ≤ 7293034; omega⟩) hD hP hS (fr_lt 17 84 66 (by omega)) (fr_inj 17 66) (fun o E1 h => h.1) (fun E2 H locs k2 hD hP hS => ?_)
        generalize g9 : wU 17 (fun k => 66 + k) F1 E2 = F2 at hD hP
        have hI : RI tc (fun k => s.heap.size + k) F2 0 0 (fun _ => 0) fo1 fa1 fb1 := hIa.cong (fun k hk => by rw [← g9]; exact wU_far (Or.inl (by omega)))
        have hO : F2 83 = .inl (tc 1, 1, .inr (.inl g)) := by rw [← g9, wU_far (Or.inr (by omega))]; exact hO
        have hM : MI tc (fun k => s.heap.size + (66 + k)) (fun k => F2 (66 + k)) 0 0 (fun _ => 0) fo1 fa1 fb1 := (MDf.mi k2.2).cong (fun k hk => by show F2 (66 + k) = E2 k; rw [← g9]; exact wU_own k hk)
        refine lv_goto (tgt := 517) hx hb dLW_law_173 rfl ?_
        exact tail _ _ (by omega) (by omega) H _ ls F2 0 0 (fun _ => 0) fo1 fa1 fb1 0 g hI hM hO hP hS hl
      · refine lv_tableIn (tgt := 176) hx hb dLW_law_39 (by decide) (by decide) rfl rfl ?_
        refine lv_aload_n hx hb dLW_law_176 rfl (lv_at hl 3 rfl) ?_
        refine lv_aload_n hx hb dLW_law_177 rfl (lv_at hl 4 rfl) ?_
        refine lv_iload hx hb dLW_law_178 (lv_at hl 0 rfl) ?_
        refine lv_iconst (v := 1) hx hb dLW_law_180 (by decide) ?_
        refine lv_iadd hx hb dLW_law_181 ?_
        rw [show (nI i + (1 : Int32)) = nI (i + 1) from nI_add i 1]
        refine va_sld hx hb hX hbl hbA hS (vp_in_nI (show (i + 1) < L by omega) (by omega)) dLW_law_182 ?_
        rw [nI_clamp (show (i + 1) < 2 ^ 31 by omega)]
        refine lv_if_eq (tgt := 190) hx hb dLW_law_183 rfl (fun hcc => ?_) (fun hcc => ?_)
        · skip
          refine lv_iconst (v := 0) hx hb dLW_law_190 (by decide) ?_
          refine lv_aload_n hx hb dLW_law_191 rfl (lv_at hl 1 rfl) ?_
          refine x_iTX (f := f67) (x_runSW (As := [.ref (s.heap.size + 0), .int 0, .ref (s.heap.size + 83)]) (rest := []) X (g_LW_start l hfl D tc (fun k => s.heap.size + f67 k) (fun k => F (f67 k)) st cs sz fo fa fb 0 g H.size hI.at67 ⟨by decide, rfl⟩ hO) rfl rfl (by decide) (by decide) w_271 w_0 w_269 w_270 ry_LW_start (ctT_pre (fun u U a h => va_Nc.moved a h) nc1 hTH (fun q hq => hS.2.1 q hq (Nat.not_le.mpr hq)) rfl X hP hD f67_lt f67_inj) (ctT_blind (fun u U a h => va_Nc.moved a h)) hl.1 (Nat.le_of_ble_eq_true rfl) dLW_law_192 ⟨by show _ ≤ 601024; omega, by show _ ≤ 7293034; omega⟩) rfl hA hD hP hS f67_lt f67_inj (fun r1 E1 H locs k1 hD hP hS => ?_)
          generalize g8 : wU 67 f67 F E1 = F1 at hD hP
          have hM : MI tc (fun k => s.heap.size + (66 + k)) (fun k => F1 (66 + k)) th st sz fo fa fb := hM.cong (fun k hk => by show F1 (66 + k) = F (66 + k); rw [← g8]; exact w67m (by omega) (by omega))
          obtain ⟨g2, hO1, k1⟩ := k1
          have hO : F1 83 = .inl (tc 1, 1, .inr (.inl g2)) := by rw [← g8, w67o]; exact hO1
          refine lv_istore hx hb dLW_law_195 hl (by decide) rfl (fun ls hl => ?_)
          have hl : lv_has ls 7 ((5, .int r1) :: [(4, .int (nI i)), (3, .ref (s.heap.size + 83)), (2, .ref (s.heap.size + 66)), (1, .ref (s.heap.size + 0)), (0, .ref b)]) := hl
          refine lv_aload_n hx hb dLW_law_197 rfl (lv_at hl 3 rfl) ?_
          refine lv_aload_n hx hb dLW_law_198 rfl (lv_at hl 5 rfl) ?_
          refine lv_iload hx hb dLW_law_199 (lv_at hl 1 rfl) ?_
          refine lv_iconst (v := 1) hx hb dLW_law_201 (by decide) ?_
          refine lv_iadd hx hb dLW_law_202 ?_
          rw [show (nI i + (1 : Int32)) = nI (i + 1) from nI_add i 1]
          refine va_sld hx hb hX hbl hbA hS (vp_in_nI (show (i + 1) < L by omega) (by omega)) dLW_law_203 ?_
          rw [nI_clamp (show (i + 1) < 2 ^ 31 by omega)]
          refine lv_if_eq (tgt := 211) hx hb dLW_law_204 rfl (fun _ => ?_) (fun h => absurd hcc h)
          refine lv_iconst (v := 0) hx hb dLW_law_211 (by decide) ?_
          have hM9 := hM
          obtain ⟨ic, cn, MA, MJ, hm, hc, q1, q2, q5⟩ := hM
          have hM0 : F1 66 = _ := hm.1
          refine x_i (f := fun k => 66 + k) (x_runV (C := R_MD) (b := s.heap.size + 66) (As := [.int 0]) (rest := []) X (g_MD_start l D tc (fun k => s.heap.size + (66 + k)) (fun k => F1 (66 + k)) th st sz fo fa fb 0 hM9 hs ⟨by decide, rfl⟩) rfl rfl (by decide) (by decide) w_559 w_9 w_556 w_557 w_558 ry_MD_start (x_recv X hP (by decide) hM0 rfl) (ct_pre X hP hD (fr_lt 17 84 66 (by omega)) (fr_inj 17 66)) ct_blind hl.1 (Nat.le_of_ble_eq_true rfl) dLW_law_212 ⟨by show _ ≤ 601024; omega, by show _ ≤ 7293034; omega⟩) hD hP hS (fr_lt 17 84 66 (by omega)) (fr_inj 17 66) (fun o E1 h => by obtain ⟨r, th2, h1, -⟩ := h; exact ⟨r, h1⟩) (fun r2 E2 H locs k2 hD hP hS => ?_)
          obtain ⟨r9, th2, e9, k2⟩ := k2
          have er := ret_i e9
          subst er
          generalize g9 : wU 17 (fun k => 66 + k) F1 E2 = F2 at hD hP
          have hO : F2 83 = .inl (tc 1, 1, .inr (.inl g2)) := by rw [← g9, wU_far (Or.inr (by omega))]; exact hO
          have own : ∀ k, k < 17 → (fun k => F2 (66 + k)) k = E2 k := fun k hk => by show F2 (66 + k) = E2 k; rw [← g9]; exact wU_own k hk
          have own2 : ∀ k, k < 66 → F2 k = F1 k := fun k hk => by rw [← g9]; exact wU_far (Or.inl (by omega))
          refine lv_istore hx hb dLW_law_215 hl (by decide) rfl (fun ls hl => ?_)
          have hl : lv_has ls 7 ((6, .int r2) :: (5, .int r1) :: [(4, .int (nI i)), (3, .ref (s.heap.size + 83)), (2, .ref (s.heap.size + 66)), (1, .ref (s.heap.size + 0)), (0, .ref b)]) := hl
          have hJ : ∃ st2 cs2, RI tc (fun k => s.heap.size + k) F2 st2 cs2 sz fo fa fb ∧ MI tc (fun k => s.heap.size + (66 + k)) (fun k => F2 (66 + k)) th2 st2 sz fo fa fb ∧ th2 = r1 ∧ (r1 = 0 → g2 0 = Int32.toInt64 r2) := by
            rcases k1 with ⟨a1, e1, w1⟩ | ⟨a1, a2, e1, w1⟩ | ⟨a1, a2, e1, w1, w2⟩
            · skip
              have w1 := (RI.back67 (ad := (fun k => s.heap.size + k)) (F := F) w1); rw [g8] at w1; have w1 := w1.cong own2
              rcases k2 with ⟨b1, f1, v1⟩ | ⟨b1, b2, f1, v1⟩ | ⟨b1, b2, f1, f2, v1⟩
              · exact ⟨st, cs, w1, v1.cong own, f1.trans e1.symm, fun h => absurd (e1.symm.trans h) (by decide)⟩
              · exact absurd b1 a1
              · exact absurd b1 a1
            · skip
              have w1 := (RI.back67 (ad := (fun k => s.heap.size + k)) (F := F) w1); rw [g8] at w1; have w1 := w1.cong own2
              rcases k2 with ⟨b1, f1, v1⟩ | ⟨b1, b2, f1, v1⟩ | ⟨b1, b2, f1, f2, v1⟩
              · exact absurd a1 b1
              · exact ⟨st, cs, w1, v1.cong own, f1.trans e1.symm, fun h => absurd (e1.symm.trans h) (by decide)⟩
              · rw [a2] at b2; cases b2
            · skip
              have w1 := (RI.back67 (ad := (fun k => s.heap.size + k)) (F := F) w1); rw [g8] at w1; have w1 := w1.cong own2
              rcases k2 with ⟨b1, f1, v1⟩ | ⟨b1, b2, f1, v1⟩ | ⟨b1, b2, f1, f2, v1⟩
              · exact absurd a1 b1
              · rw [a2] at b2; cases b2
              · exact ⟨1, 0, w1, v1.cong own, f1.trans e1.symm, fun _ => by rw [w2, f2]⟩
          obtain ⟨st2, cs2, hI, hM, eth, eg⟩ := hJ
          have hM9 := hM
          obtain ⟨ic, cn, MA, MJ, hm, hc, q1, q2, q5⟩ := hM9
          have hM0 : F2 66 = _ := hm.1
          refine lv_aload_n hx hb dLW_law_217 rfl (lv_at hl 4 rfl) ?_
          refine x_iE (f := fun k => 66 + k) (x_runV (C := R_MD) (b := s.heap.size + 66) (As := []) (rest := []) X (c_MD_thrown l D tc (fun k => s.heap.size + (66 + k)) (fun k => F2 (66 + k)) _ _ _ _ _ _ hm) rfl rfl (by decide) (by decide) w_544 w_9 w_541 w_542 w_543 ry_MD_thrown (x_recv X hP (by decide) hM0 rfl) (ct_pre X hP hD (fr_lt 17 84 66 (by omega)) (fr_inj 17 66)) ct_blind hl.1 (Nat.le_of_ble_eq_true rfl) dLW_law_218 ⟨by show _ ≤ 601024; omega, by show _ ≤ 7293034; omega⟩) hD hP hS (fr_lt 17 84 66 (by omega)) (fr_inj 17 66) (fun H locs hD hP hS => ?_)
          refine lv_iload hx hb dLW_law_221 (lv_at hl 1 rfl) ?_
          refine lv_icmp_eq (tgt := 228) hx hb dLW_law_223 rfl (fun _ => ?_) (fun h => absurd eth h)
          refine lv_iload hx hb dLW_law_228 (lv_at hl 1 rfl) ?_
          refine lv_if_ne (tgt := 245) hx hb dLW_law_230 rfl (fun hk1 => ?_) (fun hk1 => ?_)
          · skip
            refine lv_goto (tgt := 517) hx hb dLW_law_245 rfl ?_
            exact tail _ _ (by omega) (by omega) H _ ls F2 st2 cs2 sz fo fa fb th2 g2 hI hM hO hP hS (lv_sub hl [2, 3, 4, 5, 6] rfl)
          · skip
            refine lv_aload_n hx hb dLW_law_233 rfl (lv_at hl 3 rfl) ?_
            refine lv_iconst (v := 0) hx hb dLW_law_234 (by decide) ?_
            refine q_lald 0 X hP (by decide) hO rfl (by decide) (by decide) dLW_law_235 ?_
            refine lv_iload hx hb dLW_law_236 (lv_at hl 0 rfl) ?_
            refine lv_i2l hx hb dLW_law_238 rfl ?_
            refine W.lcmp hx hb dLW_law_239 ?_
            refine lv_if_eq (tgt := 245) hx hb dLW_law_240 rfl (fun _ => ?_) (fun h => absurd (by rw [eg hk1]; exact lcmp_0 _) h)
            refine lv_goto (tgt := 517) hx hb dLW_law_245 rfl ?_
            exact tail _ _ (by omega) (by omega) H _ ls F2 st2 cs2 sz fo fa fb th2 g2 hI hM hO hP hS (lv_sub hl [2, 3, 4, 5, 6] rfl)
        · skip
          refine lv_iconst (v := 1) hx hb dLW_law_186 (by decide) ?_
          refine lv_goto (tgt := 191) hx hb dLW_law_187 rfl ?_
          refine lv_aload_n hx hb dLW_law_191 rfl (lv_at hl 1 rfl) ?_
          refine x_iTX (f := f67) (x_runSW (As := [.ref (s.heap.size + 0), .int 1, .ref (s.heap.size + 83)]) (rest := []) X (g_LW_start l hfl D tc (fun k => s.heap.size + f67 k) (fun k => F (f67 k)) st cs sz fo fa fb 1 g H.size hI.at67 ⟨by decide, rfl⟩ hO) rfl rfl (by decide) (by decide) w_271 w_0 w_269 w_270 ry_LW_start (ctT_pre (fun u U a h => va_Nc.moved a h) nc1 hTH (fun q hq => hS.2.1 q hq (Nat.not_le.mpr hq)) rfl X hP hD f67_lt f67_inj) (ctT_blind (fun u U a h => va_Nc.moved a h)) hl.1 (Nat.le_of_ble_eq_true rfl) dLW_law_192 ⟨by show _ ≤ 601024; omega, by show _ ≤ 7293034; omega⟩) rfl hA hD hP hS f67_lt f67_inj (fun r1 E1 H locs k1 hD hP hS => ?_)
          generalize g8 : wU 67 f67 F E1 = F1 at hD hP
          have hM : MI tc (fun k => s.heap.size + (66 + k)) (fun k => F1 (66 + k)) th st sz fo fa fb := hM.cong (fun k hk => by show F1 (66 + k) = F (66 + k); rw [← g8]; exact w67m (by omega) (by omega))
          obtain ⟨g2, hO1, k1⟩ := k1
          have hO : F1 83 = .inl (tc 1, 1, .inr (.inl g2)) := by rw [← g8, w67o]; exact hO1
          refine lv_istore hx hb dLW_law_195 hl (by decide) rfl (fun ls hl => ?_)
          have hl : lv_has ls 7 ((5, .int r1) :: [(4, .int (nI i)), (3, .ref (s.heap.size + 83)), (2, .ref (s.heap.size + 66)), (1, .ref (s.heap.size + 0)), (0, .ref b)]) := hl
          refine lv_aload_n hx hb dLW_law_197 rfl (lv_at hl 3 rfl) ?_
          refine lv_aload_n hx hb dLW_law_198 rfl (lv_at hl 5 rfl) ?_
          refine lv_iload hx hb dLW_law_199 (lv_at hl 1 rfl) ?_
          refine lv_iconst (v := 1) hx hb dLW_law_201 (by decide) ?_
          refine lv_iadd hx hb dLW_law_202 ?_
          rw [show (nI i + (1 : Int32)) = nI (i + 1) from nI_add i 1]
          refine va_sld hx hb hX hbl hbA hS (vp_in_nI (show (i + 1) < L by omega) (by omega)) dLW_law_203 ?_
          rw [nI_clamp (show (i + 1) < 2 ^ 31 by omega)]
          refine lv_if_eq (tgt := 211) hx hb dLW_law_204 rfl (fun h => absurd h hcc) (fun _ => ?_)
          refine lv_iconst (v := 1) hx hb dLW_law_207 (by decide) ?_
          refine lv_goto (tgt := 212) hx hb dLW_law_208 rfl ?_
          have hM9 := hM
          obtain ⟨ic, cn, MA, MJ, hm, hc, q1, q2, q5⟩ := hM
          have hM0 : F1 66 = _ := hm.1
          refine x_i (f := fun k => 66 + k) (x_runV (C := R_MD) (b := s.heap.size + 66) (As := [.int 1]) (rest := []) X (g_MD_start l D tc (fun k => s.heap.size + (66 + k)) (fun k => F1 (66 + k)) th st sz fo fa fb 1 hM9 hs ⟨by decide, rfl⟩) rfl rfl (by decide) (by decide) w_559 w_9 w_556 w_557 w_558 ry_MD_start (x_recv X hP (by decide) hM0 rfl) (ct_pre X hP hD (fr_lt 17 84 66 (by omega)) (fr_inj 17 66)) ct_blind hl.1 (Nat.le_of_ble_eq_true rfl) dLW_law_212 ⟨by show _ ≤ 601024; omega, by show _ ≤ 7293034; omega⟩) hD hP hS (fr_lt 17 84 66 (by omega)) (fr_inj 17 66) (fun o E1 h => by obtain ⟨r, th2, h1, -⟩ := h; exact ⟨r, h1⟩) (fun r2 E2 H locs k2 hD hP hS => ?_)
          obtain ⟨r9, th2, e9, k2⟩ := k2
          have er := ret_i e9
          subst er
          generalize g9 : wU 17 (fun k => 66 + k) F1 E2 = F2 at hD hP
          have hO : F2 83 = .inl (tc 1, 1, .inr (.inl g2)) := by rw [← g9, wU_far (Or.inr (by omega))]; exact hO
          have own : ∀ k, k < 17 → (fun k => F2 (66 + k)) k = E2 k := fun k hk => by show F2 (66 + k) = E2 k; rw [← g9]; exact wU_own k hk
          have own2 : ∀ k, k < 66 → F2 k = F1 k := fun k hk => by rw [← g9]; exact wU_far (Or.inl (by omega))
          refine lv_istore hx hb dLW_law_215 hl (by decide) rfl (fun ls hl => ?_)
          have hl : lv_has ls 7 ((6, .int r2) :: (5, .int r1) :: [(4, .int (nI i)), (3, .ref (s.heap.size + 83)), (2, .ref (s.heap.size + 66)), (1, .ref (s.heap.size + 0)), (0, .ref b)]) := hl
          have hJ : ∃ st2 cs2, RI tc (fun k => s.heap.size + k) F2 st2 cs2 sz fo fa fb ∧ MI tc (fun k => s.heap.size + (66 + k)) (fun k => F2 (66 + k)) th2 st2 sz fo fa fb ∧ th2 = r1 ∧ (r1 = 0 → g2 0 = Int32.toInt64 r2) := by
            rcases k1 with ⟨a1, e1, w1⟩ | ⟨a1, a2, e1, w1⟩ | ⟨a1, a2, e1, w1, w2⟩
            · skip
              have w1 := (RI.back67 (ad := (fun k => s.heap.size + k)) (F := F) w1); rw [g8] at w1; have w1 := w1.cong own2
              rcases k2 with ⟨b1, f1, v1⟩ | ⟨b1, b2, f1, v1⟩ | ⟨b1, b2, f1, f2, v1⟩
              · exact ⟨st, cs, w1, v1.cong own, f1.trans e1.symm, fun h => absurd (e1.symm.trans h) (by decide)⟩
              · exact absurd b1 a1
              · exact absurd b1 a1
            · skip
              have w1 := (RI.back67 (ad := (fun k => s.heap.size + k)) (F := F) w1); rw [g8] at w1; have w1 := w1.cong own2
              rcases k2 with ⟨b1, f1, v1⟩ | ⟨b1, b2, f1, v1⟩ | ⟨b1, b2, f1, f2, v1⟩
              · exact absurd a1 b1
              · exact ⟨st, cs, w1, v1.cong own, f1.trans e1.symm, fun h => absurd (e1.symm.trans h) (by decide)⟩
              · rw [a2] at b2; cases b2
            · skip
              have w1 := (RI.back67 (ad := (fun k => s.heap.size + k)) (F := F) w1); rw [g8] at w1; have w1 := w1.cong own2
              rcases k2 with ⟨b1, f1, v1⟩ | ⟨b1, b2, f1, v1⟩ | ⟨b1, b2, f1, f2, v1⟩
              · exact absurd a1 b1
              · rw [a2] at b2; cases b2
              · exact ⟨1, 1, w1, v1.cong own, f1.trans e1.symm, fun _ => by rw [w2, f2]⟩
          obtain ⟨st2, cs2, hI, hM, eth, eg⟩ := hJ
          have hM9 := hM
          obtain ⟨ic, cn, MA, MJ, hm, hc, q1, q2, q5⟩ := hM9
          have hM0 : F2 66 = _ := hm.1
          refine lv_aload_n hx hb dLW_law_217 rfl (lv_at hl 4 rfl) ?_
          refine x_iE (f := fun k => 66 + k) (x_runV (C := R_MD) (b := s.heap.size + 66) (As := []) (rest := []) X (c_MD_thrown l D tc (fun k => s.heap.size + (66 + k)) (fun k => F2 (66 + k)) _ _ _ _ _ _ hm) rfl rfl (by decide) (by decide) w_544 w_9 w_541 w_542 w_543 ry_MD_thrown (x_recv X hP (by decide) hM0 rfl) (ct_pre X hP hD (fr_lt 17 84 66 (by omega)) (fr_inj 17 66)) ct_blind hl.1 (Nat.le_of_ble_eq_true rfl) dLW_law_218 ⟨by show _ ≤ 601024; omega, by show _ ≤ 7293034; omega⟩) hD hP hS (fr_lt 17 84 66 (by omega)) (fr_inj 17 66) (fun H locs hD hP hS => ?_)
          refine lv_iload hx hb dLW_law_221 (lv_at hl 1 rfl) ?_
          refine lv_icmp_eq (tgt := 228) hx hb dLW_law_223 rfl (fun _ => ?_) (fun h => absurd eth h)
          refine lv_iload hx hb dLW_law_228 (lv_at hl 1 rfl) ?_
          refine lv_if_ne (tgt := 245) hx hb dLW_law_230 rfl (fun hk1 => ?_) (fun hk1 => ?_)
          · skip
            refine lv_goto (tgt := 517) hx hb dLW_law_245 rfl ?_
            exact tail _ _ (by omega) (by omega) H _ ls F2 st2 cs2 sz fo fa fb th2 g2 hI hM hO hP hS (lv_sub hl [2, 3, 4, 5, 6] rfl)
          · skip
            refine lv_aload_n hx hb dLW_law_233 rfl (lv_at hl 3 rfl) ?_
            refine lv_iconst (v := 0) hx hb dLW_law_234 (by decide) ?_
            refine q_lald 0 X hP (by decide) hO rfl (by decide) (by decide) dLW_law_235 ?_
            refine lv_iload hx hb dLW_law_236 (lv_at hl 0 rfl) ?_
            refine lv_i2l hx hb dLW_law_238 rfl ?_
            refine W.lcmp hx hb dLW_law_239 ?_
            refine lv_if_eq (tgt := 245) hx hb dLW_law_240 rfl (fun _ => ?_) (fun h => absurd (by rw [eg hk1]; exact lcmp_0 _) h)
            refine lv_goto (tgt := 517) hx hb dLW_law_245 rfl ?_
            exact tail _ _ (by omega) (by omega) H _ ls F2 st2 cs2 sz fo fa fb th2 g2 hI hM hO hP hS (lv_sub hl [2, 3, 4, 5, 6] rfl)
      · refine lv_tableIn (tgt := 248) hx hb dLW_law_39 (by decide) (by decide) rfl rfl ?_
        refine lv_aload_n hx hb dLW_law_248 rfl (lv_at hl 3 rfl) ?_
        refine lv_aload_n hx hb dLW_law_249 rfl (lv_at hl 4 rfl) ?_
        refine lv_iload hx hb dLW_law_250 (lv_at hl 0 rfl) ?_
        refine lv_iconst (v := 1) hx hb dLW_law_252 (by decide) ?_
        refine lv_iadd hx hb dLW_law_253 ?_
        rw [show (nI i + (1 : Int32)) = nI (i + 1) from nI_add i 1]
        refine va_sld hx hb hX hbl hbA hS (vp_in_nI (show (i + 1) < L by omega) (by omega)) dLW_law_254 ?_
        rw [nI_clamp (show (i + 1) < 2 ^ 31 by omega)]
        refine lv_aload_n hx hb dLW_law_255 rfl (lv_at hl 1 rfl) ?_
        refine x_iTX (f := f67) (x_runSW (As := [.ref (s.heap.size + 0), .int (xs (i + 1)), .ref (s.heap.size + 83)]) (rest := []) X (g_LW_step l hfl D tc (fun k => s.heap.size + f67 k) (fun k => F (f67 k)) st cs sz fo fa fb (xs (i + 1)) g H.size hI.at67 hO) rfl rfl (by decide) (by decide) w_359 w_0 w_357 w_358 ry_LW_step (ctT_pre (fun u U a h => ⟨va_Nc.moved a h.1, va_Nc.moved a h.2.1, va_Nc.moved a h.2.2⟩) nc2 hTH (fun q hq => hS.2.1 q hq (Nat.not_le.mpr hq)) rfl X hP hD f67_lt f67_inj) (ctT_blind (fun u U a h => ⟨va_Nc.moved a h.1, va_Nc.moved a h.2.1, va_Nc.moved a h.2.2⟩)) hl.1 (Nat.le_of_ble_eq_true rfl) dLW_law_256 ⟨by show _ ≤ 601024; omega, by show _ ≤ 7293034; omega⟩) rfl hA hD hP hS f67_lt f67_inj (fun r1 E1 H locs k1 hD hP hS => ?_)
        generalize g8 : wU 67 f67 F E1 = F1 at hD hP
        have hM : MI tc (fun k => s.heap.size + (66 + k)) (fun k => F1 (66 + k)) th st sz fo fa fb := hM.cong (fun k hk => by show F1 (66 + k) = F (66 + k); rw [← g8]; exact w67m (by omega) (by omega))
        obtain ⟨⟨g2, hO1⟩, k1⟩ := k1
        have hO : F1 83 = .inl (tc 1, 1, .inr (.inl g2)) := by rw [← g8, w67o]; exact hO1
        have hI1 : RI tc (fun k => s.heap.size + k) F1 st cs sz fo fa fb := by rw [← g8]; exact RI.back67 k1
        refine lv_istore hx hb dLW_law_259 hl (by decide) rfl (fun ls hl => ?_)
        have hl : lv_has ls 7 ((5, .int r1) :: [(4, .int (nI i)), (3, .ref (s.heap.size + 83)), (2, .ref (s.heap.size + 66)), (1, .ref (s.heap.size + 0)), (0, .ref b)]) := hl
        refine lv_aload_n hx hb dLW_law_261 rfl (lv_at hl 3 rfl) ?_
        refine lv_aload_n hx hb dLW_law_262 rfl (lv_at hl 5 rfl) ?_
        refine lv_iload hx hb dLW_law_263 (lv_at hl 1 rfl) ?_
        refine lv_iconst (v := 1) hx hb dLW_law_265 (by decide) ?_
        refine lv_iadd hx hb dLW_law_266 ?_
        rw [show (nI i + (1 : Int32)) = nI (i + 1) from nI_add i 1]
        refine va_sld hx hb hX hbl hbA hS (vp_in_nI (show (i + 1) < L by omega) (by omega)) dLW_law_267 ?_
        rw [nI_clamp (show (i + 1) < 2 ^ 31 by omega)]
        have hM9 := hM
        obtain ⟨ic, cn, MA, MJ, hm, hc, q1, q2, q5⟩ := hM
        have hM0 : F1 66 = _ := hm.1
        refine x_i (f := fun k => 66 + k) (x_runV (C := R_MD) (b := s.heap.size + 66) (As := [.int (xs (i + 1))]) (rest := []) X (g_MD_step l D tc (fun k => s.heap.size + (66 + k)) (fun k => F1 (66 + k)) th st sz fo fa fb (xs (i + 1)) hM9 hI.2.2.2.2.2.2.1 hI.2.2.2.2.2.2.2) rfl rfl (by decide) (by decide) w_571 w_9 w_568 w_569 w_570 ry_MD_step (x_recv X hP (by decide) hM0 rfl) (ct_pre X hP hD (fr_lt 17 84 66 (by omega)) (fr_inj 17 66)) ct_blind hl.1 (Nat.le_of_ble_eq_true rfl) dLW_law_268 ⟨by show _ ≤ 601024; omega, by show _ ≤ 7293034; omega⟩) hD hP hS (fr_lt 17 84 66 (by omega)) (fr_inj 17 66) (fun o E1 h => by obtain ⟨r, th2, h1, -⟩ := h; exact ⟨r, h1⟩) (fun r2 E2 H locs k2 hD hP hS => ?_)
        obtain ⟨r9, th2, -, k2⟩ := k2
        generalize g9 : wU 17 (fun k => 66 + k) F1 E2 = F2 at hD hP
        have hO : F2 83 = .inl (tc 1, 1, .inr (.inl g2)) := by rw [← g9, wU_far (Or.inr (by omega))]; exact hO
        have hI : RI tc (fun k => s.heap.size + k) F2 st cs sz fo fa fb := hI1.cong (fun k hk => by rw [← g9]; exact wU_far (Or.inl (by omega)))
        have hM : MI tc (fun k => s.heap.size + (66 + k)) (fun k => F2 (66 + k)) th2 st sz fo fa fb := k2.cong (fun k hk => by show F2 (66 + k) = E2 k; rw [← g9]; exact wU_own k hk)
        refine lv_istore hx hb dLW_law_271 hl (by decide) rfl (fun ls hl => ?_)
        have hl : lv_has ls 7 ((6, .int r2) :: (5, .int r1) :: [(4, .int (nI i)), (3, .ref (s.heap.size + 83)), (2, .ref (s.heap.size + 66)), (1, .ref (s.heap.size + 0)), (0, .ref b)]) := hl
        refine lv_goto (tgt := 517) hx hb dLW_law_273 rfl ?_
        exact tail _ _ (by omega) (by omega) H _ ls F2 st cs sz fo fa fb th2 g2 hI hM hO hP hS (lv_sub hl [2, 3, 4, 5, 6] rfl)
      · refine lv_tableIn (tgt := 276) hx hb dLW_law_39 (by decide) (by decide) rfl rfl ?_
        refine lv_aload_n hx hb dLW_law_276 rfl (lv_at hl 3 rfl) ?_
        refine lv_aload_n hx hb dLW_law_277 rfl (lv_at hl 4 rfl) ?_
        refine lv_iload hx hb dLW_law_278 (lv_at hl 0 rfl) ?_
        refine lv_iconst (v := 1) hx hb dLW_law_280 (by decide) ?_
        refine lv_iadd hx hb dLW_law_281 ?_
        rw [show (nI i + (1 : Int32)) = nI (i + 1) from nI_add i 1]
        refine va_sld hx hb hX hbl hbA hS (vp_in_nI (show (i + 1) < L by omega) (by omega)) dLW_law_282 ?_
        rw [nI_clamp (show (i + 1) < 2 ^ 31 by omega)]
        refine x_lX (f := fun k => 0 + k) (x_runV (C := R_RW) (b := s.heap.size + 0) (As := [.int (xs (i + 1))]) (rest := []) X (g_RW_state l D tc (fun k => s.heap.size + (0 + k)) (fun k => F (0 + k)) st cs sz fo fa fb (xs (i + 1)) (by simpa only [Nat.zero_add] using hI)) rfl rfl (by decide) (by decide) w_203 w_1 w_200 w_201 w_202 ry_RW_state (x_recv X hP (by decide) hR0 rfl) (ct_pre X hP hD (fr_lt 66 84 0 (by omega)) (fr_inj 66 0)) ct_blind hl.1 (Nat.le_of_ble_eq_true rfl) dLW_law_283 ⟨by show _ ≤ 601024; omega, by show _ ≤ 7293034; omega⟩) hD hP hS (fr_lt 66 84 0 (by omega)) (fr_inj 66 0) (fun z H locs hD hP hS => ?_)
        refine lv_pop2_2 hx hb dLW_law_286 rfl ?_
        refine lv_aload_n hx hb dLW_law_287 rfl (lv_at hl 2 rfl) ?_
        refine lv_aload_n hx hb dLW_law_288 rfl (lv_at hl 4 rfl) ?_
        refine lv_iload hx hb dLW_law_289 (lv_at hl 0 rfl) ?_
        refine lv_iconst (v := 1) hx hb dLW_law_291 (by decide) ?_
        refine lv_iadd hx hb dLW_law_292 ?_
        rw [show (nI i + (1 : Int32)) = nI (i + 1) from nI_add i 1]
        refine va_sld hx hb hX hbl hbA hS (vp_in_nI (show (i + 1) < L by omega) (by omega)) dLW_law_293 ?_
        rw [nI_clamp (show (i + 1) < 2 ^ 31 by omega)]
        obtain ⟨ic, cn, MA, MJ, hm, hc, q1, q2, q5⟩ := hM
        have hM0 : F 66 = _ := hm.1
        refine x_l (f := fun k => 66 + k) (x_runV (C := R_MD) (b := s.heap.size + 66) (As := [.int (xs (i + 1))]) (rest := []) X (g_MD_state l D tc (fun k => s.heap.size + (66 + k)) (fun k => F (66 + k)) th st ic cn MA MJ (xs (i + 1)) hm hc) rfl rfl (by decide) (by decide) w_623 w_9 w_620 w_621 w_622 ry_MD_state (x_recv X hP (by decide) hM0 rfl) (ct_pre X hP hD (fr_lt 17 84 66 (by omega)) (fr_inj 17 66)) ct_blind hl.1 (Nat.le_of_ble_eq_true rfl) dLW_law_294 ⟨by show _ ≤ 601024; omega, by show _ ≤ 7293034; omega⟩) hD hP hS (fr_lt 17 84 66 (by omega)) (fr_inj 17 66) (fun o E1 h => by obtain ⟨r, h1, -⟩ := h; exact ⟨r, h1⟩) (fun r2 E2 H locs k2 hD hP hS => ?_)
        obtain ⟨-, -, k2⟩ := k2
        generalize g9 : wU 17 (fun k => 66 + k) F E2 = F2 at hD hP
        have hI : RI tc (fun k => s.heap.size + k) F2 st cs sz fo fa fb := hI.cong (fun k hk => by rw [← g9]; exact wU_far (Or.inl (by omega)))
        have hO : F2 83 = .inl (tc 1, 1, .inr (.inl g)) := by rw [← g9, wU_far (Or.inr (by omega))]; exact hO
        have own : ∀ k, k < 17 → (fun k => F2 (66 + k)) k = E2 k := fun k hk => by show F2 (66 + k) = E2 k; rw [← g9]; exact wU_own k hk
        have hM : MI tc (fun k => s.heap.size + (66 + k)) (fun k => F2 (66 + k)) 0 st sz fo fa fb := ⟨ic, cn, MA, MJ, k2.cong own, hc, q1, q2, q5⟩
        refine lv_pop2_2 hx hb dLW_law_297 rfl ?_
        refine lv_goto (tgt := 517) hx hb dLW_law_298 rfl ?_
        exact tail _ _ (by omega) (by omega) H _ ls F2 st cs sz fo fa fb 0 g hI hM hO hP hS hl
      · refine lv_tableIn (tgt := 301) hx hb dLW_law_39 (by decide) (by decide) rfl rfl ?_
        refine lv_aload_n hx hb dLW_law_301 rfl (lv_at hl 3 rfl) ?_
        refine lv_aload_n hx hb dLW_law_302 rfl (lv_at hl 4 rfl) ?_
        refine lv_iload hx hb dLW_law_303 (lv_at hl 0 rfl) ?_
        refine lv_iconst (v := 1) hx hb dLW_law_305 (by decide) ?_
        refine lv_iadd hx hb dLW_law_306 ?_
        rw [show (nI i + (1 : Int32)) = nI (i + 1) from nI_add i 1]
        refine va_sld hx hb hX hbl hbA hS (vp_in_nI (show (i + 1) < L by omega) (by omega)) dLW_law_307 ?_
        rw [nI_clamp (show (i + 1) < 2 ^ 31 by omega)]
        refine x_iX (f := fun k => 0 + k) (x_runV (C := R_RW) (b := s.heap.size + 0) (As := [.int (xs (i + 1))]) (rest := []) X (g_RW_holder l D tc (fun k => s.heap.size + (0 + k)) (fun k => F (0 + k)) st cs sz fo fa fb (xs (i + 1)) (by simpa only [Nat.zero_add] using hI)) rfl rfl (by decide) (by decide) w_210 w_1 w_207 w_208 w_209 ry_RW_holder (x_recv X hP (by decide) hR0 rfl) (ct_pre X hP hD (fr_lt 66 84 0 (by omega)) (fr_inj 66 0)) ct_blind hl.1 (Nat.le_of_ble_eq_true rfl) dLW_law_308 ⟨by show _ ≤ 601024; omega, by show _ ≤ 7293034; omega⟩) hD hP hS (fr_lt 66 84 0 (by omega)) (fr_inj 66 0) (fun z H locs hz hD hP hS => ?_)
        refine lv_pop hx hb dLW_law_311 rfl ?_
        refine lv_aload_n hx hb dLW_law_312 rfl (lv_at hl 2 rfl) ?_
        refine lv_aload_n hx hb dLW_law_313 rfl (lv_at hl 4 rfl) ?_
        refine lv_iload hx hb dLW_law_314 (lv_at hl 0 rfl) ?_
        refine lv_iconst (v := 1) hx hb dLW_law_316 (by decide) ?_
        refine lv_iadd hx hb dLW_law_317 ?_
        rw [show (nI i + (1 : Int32)) = nI (i + 1) from nI_add i 1]
        refine va_sld hx hb hX hbl hbA hS (vp_in_nI (show (i + 1) < L by omega) (by omega)) dLW_law_318 ?_
        rw [nI_clamp (show (i + 1) < 2 ^ 31 by omega)]
        obtain ⟨ic, cn, MA, MJ, hm, hc, q1, q2, q5⟩ := hM
        have hM0 : F 66 = _ := hm.1
        refine x_i (f := fun k => 66 + k) (x_runV (C := R_MD) (b := s.heap.size + 66) (As := [.int (xs (i + 1))]) (rest := []) X (g_MD_holder l D tc (fun k => s.heap.size + (66 + k)) (fun k => F (66 + k)) th st ic cn MA MJ (xs (i + 1)) hm hc) rfl rfl (by decide) (by decide) w_629 w_9 w_626 w_627 w_628 ry_MD_holder (x_recv X hP (by decide) hM0 rfl) (ct_pre X hP hD (fr_lt 17 84 66 (by omega)) (fr_inj 17 66)) ct_blind hl.1 (Nat.le_of_ble_eq_true rfl) dLW_law_319 ⟨by show _ ≤ 601024; omega, by show _ ≤ 7293034; omega⟩) hD hP hS (fr_lt 17 84 66 (by omega)) (fr_inj 17 66) (fun o E1 h => by obtain ⟨r, h1, -⟩ := h; exact ⟨r, h1⟩) (fun r2 E2 H locs k2 hD hP hS => ?_)
        obtain ⟨-, -, k2⟩ := k2
        generalize g9 : wU 17 (fun k => 66 + k) F E2 = F2 at hD hP
        have hI : RI tc (fun k => s.heap.size + k) F2 st cs sz fo fa fb := hI.cong (fun k hk => by rw [← g9]; exact wU_far (Or.inl (by omega)))
        have hO : F2 83 = .inl (tc 1, 1, .inr (.inl g)) := by rw [← g9, wU_far (Or.inr (by omega))]; exact hO
        have own : ∀ k, k < 17 → (fun k => F2 (66 + k)) k = E2 k := fun k hk => by show F2 (66 + k) = E2 k; rw [← g9]; exact wU_own k hk
        have hM : MI tc (fun k => s.heap.size + (66 + k)) (fun k => F2 (66 + k)) 0 st sz fo fa fb := ⟨ic, cn, MA, MJ, k2.cong own, hc, q1, q2, q5⟩
        refine lv_pop hx hb dLW_law_322 rfl ?_
        refine lv_goto (tgt := 517) hx hb dLW_law_323 rfl ?_
        exact tail _ _ (by omega) (by omega) H _ ls F2 st cs sz fo fa fb 0 g hI hM hO hP hS hl
      · refine lv_tableIn (tgt := 326) hx hb dLW_law_39 (by decide) (by decide) rfl rfl ?_
        refine lv_aload_n hx hb dLW_law_326 rfl (lv_at hl 3 rfl) ?_
        refine x_iX (f := fun k => 0 + k) (x_runV (C := R_RW) (b := s.heap.size + 0) (As := []) (rest := []) X (g_RW_events l D tc (fun k => s.heap.size + (0 + k)) (fun k => F (0 + k)) st cs sz fo fa fb  (by simpa only [Nat.zero_add] using hI)) rfl rfl (by decide) (by decide) w_214 w_1 w_211 w_212 w_213 ry_RW_events (x_recv X hP (by decide) hR0 rfl) (ct_pre X hP hD (fr_lt 66 84 0 (by omega)) (fr_inj 66 0)) ct_blind hl.1 (Nat.le_of_ble_eq_true rfl) dLW_law_327 ⟨by show _ ≤ 601024; omega, by show _ ≤ 7293034; omega⟩) hD hP hS (fr_lt 66 84 0 (by omega)) (fr_inj 66 0) (fun z H locs hz hD hP hS => ?_)
        refine lv_pop hx hb dLW_law_330 rfl ?_
        refine lv_aload_n hx hb dLW_law_331 rfl (lv_at hl 2 rfl) ?_
        obtain ⟨ic, cn, MA, MJ, hm, hc, q1, q2, q5⟩ := hM
        have hM0 : F 66 = _ := hm.1
        refine x_i (f := fun k => 66 + k) (x_runV (C := R_MD) (b := s.heap.size + 66) (As := []) (rest := []) X (g_MD_events l D tc (fun k => s.heap.size + (66 + k)) (fun k => F (66 + k)) th st ic cn MA MJ  hm hc) rfl rfl (by decide) (by decide) w_633 w_9 w_630 w_631 w_632 ry_MD_events (x_recv X hP (by decide) hM0 rfl) (ct_pre X hP hD (fr_lt 17 84 66 (by omega)) (fr_inj 17 66)) ct_blind hl.1 (Nat.le_of_ble_eq_true rfl) dLW_law_332 ⟨by show _ ≤ 601024; omega, by show _ ≤ 7293034; omega⟩) hD hP hS (fr_lt 17 84 66 (by omega)) (fr_inj 17 66) (fun o E1 h => by obtain ⟨r, h1, -⟩ := h; exact ⟨r, h1⟩) (fun r2 E2 H locs k2 hD hP hS => ?_)
        obtain ⟨-, -, k2⟩ := k2
        generalize g9 : wU 17 (fun k => 66 + k) F E2 = F2 at hD hP
        have hI : RI tc (fun k => s.heap.size + k) F2 st cs sz fo fa fb := hI.cong (fun k hk => by rw [← g9]; exact wU_far (Or.inl (by omega)))
        have hO : F2 83 = .inl (tc 1, 1, .inr (.inl g)) := by rw [← g9, wU_far (Or.inr (by omega))]; exact hO
        have own : ∀ k, k < 17 → (fun k => F2 (66 + k)) k = E2 k := fun k hk => by show F2 (66 + k) = E2 k; rw [← g9]; exact wU_own k hk
        have hM : MI tc (fun k => s.heap.size + (66 + k)) (fun k => F2 (66 + k)) 0 st sz fo fa fb := ⟨ic, cn, MA, MJ, k2.cong own, hc, q1, q2, q5⟩
        refine lv_pop hx hb dLW_law_335 rfl ?_
        refine lv_goto (tgt := 517) hx hb dLW_law_336 rfl ?_
        exact tail _ _ (by omega) (by omega) H _ ls F2 st cs sz fo fa fb 0 g hI hM hO hP hS hl
      · refine lv_tableIn (tgt := 339) hx hb dLW_law_39 (by decide) (by decide) rfl rfl ?_
        refine lv_aload_n hx hb dLW_law_339 rfl (lv_at hl 3 rfl) ?_
        refine lv_aload_n hx hb dLW_law_340 rfl (lv_at hl 4 rfl) ?_
        refine lv_iload hx hb dLW_law_341 (lv_at hl 0 rfl) ?_
        refine lv_iconst (v := 1) hx hb dLW_law_343 (by decide) ?_
        refine lv_iadd hx hb dLW_law_344 ?_
        rw [show (nI i + (1 : Int32)) = nI (i + 1) from nI_add i 1]
        refine va_sld hx hb hX hbl hbA hS (vp_in_nI (show (i + 1) < L by omega) (by omega)) dLW_law_345 ?_
        rw [nI_clamp (show (i + 1) < 2 ^ 31 by omega)]
        refine x_iX (f := fun k => 0 + k) (x_runV (C := R_RW) (b := s.heap.size + 0) (As := [.int (xs (i + 1))]) (rest := []) X (g_RW_event l D tc (fun k => s.heap.size + (0 + k)) (fun k => F (0 + k)) st cs sz fo fa fb (xs (i + 1)) (by simpa only [Nat.zero_add] using hI)) rfl rfl (by decide) (by decide) w_218 w_1 w_215 w_216 w_217 ry_RW_event (x_recv X hP (by decide) hR0 rfl) (ct_pre X hP hD (fr_lt 66 84 0 (by omega)) (fr_inj 66 0)) ct_blind hl.1 (Nat.le_of_ble_eq_true rfl) dLW_law_346 ⟨by show _ ≤ 601024; omega, by show _ ≤ 7293034; omega⟩) hD hP hS (fr_lt 66 84 0 (by omega)) (fr_inj 66 0) (fun z H locs hz hD hP hS => ?_)
        refine lv_pop hx hb dLW_law_349 rfl ?_
        refine lv_aload_n hx hb dLW_law_350 rfl (lv_at hl 2 rfl) ?_
        refine lv_aload_n hx hb dLW_law_351 rfl (lv_at hl 4 rfl) ?_
        refine lv_iload hx hb dLW_law_352 (lv_at hl 0 rfl) ?_
        refine lv_iconst (v := 1) hx hb dLW_law_354 (by decide) ?_
        refine lv_iadd hx hb dLW_law_355 ?_
        rw [show (nI i + (1 : Int32)) = nI (i + 1) from nI_add i 1]
        refine va_sld hx hb hX hbl hbA hS (vp_in_nI (show (i + 1) < L by omega) (by omega)) dLW_law_356 ?_
        rw [nI_clamp (show (i + 1) < 2 ^ 31 by omega)]
        obtain ⟨ic, cn, MA, MJ, hm, hc, q1, q2, q5⟩ := hM
        have hM0 : F 66 = _ := hm.1
        refine x_i (f := fun k => 66 + k) (x_runV (C := R_MD) (b := s.heap.size + 66) (As := [.int (xs (i + 1))]) (rest := []) X (g_MD_event l D tc (fun k => s.heap.size + (66 + k)) (fun k => F (66 + k)) th st ic cn MA MJ (xs (i + 1)) hm hc) rfl rfl (by decide) (by decide) w_637 w_9 w_634 w_635 w_636 ry_MD_event (x_recv X hP (by decide) hM0 rfl) (ct_pre X hP hD (fr_lt 17 84 66 (by omega)) (fr_inj 17 66)) ct_blind hl.1 (Nat.le_of_ble_eq_true rfl) dLW_law_357 ⟨by show _ ≤ 601024; omega, by show _ ≤ 7293034; omega⟩) hD hP hS (fr_lt 17 84 66 (by omega)) (fr_inj 17 66) (fun o E1 h => by obtain ⟨r, h1, -⟩ := h; exact ⟨r, h1⟩) (fun r2 E2 H locs k2 hD hP hS => ?_)
        obtain ⟨-, -, k2⟩ := k2
        generalize g9 : wU 17 (fun k => 66 + k) F E2 = F2 at hD hP
        have hI : RI tc (fun k => s.heap.size + k) F2 st cs sz fo fa fb := hI.cong (fun k hk => by rw [← g9]; exact wU_far (Or.inl (by omega)))
        have hO : F2 83 = .inl (tc 1, 1, .inr (.inl g)) := by rw [← g9, wU_far (Or.inr (by omega))]; exact hO
        have own : ∀ k, k < 17 → (fun k => F2 (66 + k)) k = E2 k := fun k hk => by show F2 (66 + k) = E2 k; rw [← g9]; exact wU_own k hk
        have hM : MI tc (fun k => s.heap.size + (66 + k)) (fun k => F2 (66 + k)) 0 st sz fo fa fb := ⟨ic, cn, MA, MJ, k2.cong own, hc, q1, q2, q5⟩
        refine lv_pop hx hb dLW_law_360 rfl ?_
        refine lv_goto (tgt := 517) hx hb dLW_law_361 rfl ?_
        exact tail _ _ (by omega) (by omega) H _ ls F2 st cs sz fo fa fb 0 g hI hM hO hP hS hl
      · refine lv_tableIn (tgt := 364) hx hb dLW_law_39 (by decide) (by decide) rfl rfl ?_
        refine lv_aload_n hx hb dLW_law_364 rfl (lv_at hl 3 rfl) ?_
        refine lv_aload_n hx hb dLW_law_365 rfl (lv_at hl 4 rfl) ?_
        refine lv_iload hx hb dLW_law_366 (lv_at hl 0 rfl) ?_
        refine lv_iconst (v := 1) hx hb dLW_law_368 (by decide) ?_
        refine lv_iadd hx hb dLW_law_369 ?_
        rw [show (nI i + (1 : Int32)) = nI (i + 1) from nI_add i 1]
        refine va_sld hx hb hX hbl hbA hS (vp_in_nI (show (i + 1) < L by omega) (by omega)) dLW_law_370 ?_
        rw [nI_clamp (show (i + 1) < 2 ^ 31 by omega)]
        refine lv_aload_n hx hb dLW_law_371 rfl (lv_at hl 4 rfl) ?_
        refine lv_iload hx hb dLW_law_372 (lv_at hl 0 rfl) ?_
        refine lv_iconst (v := 2) hx hb dLW_law_374 (by decide) ?_
        refine lv_iadd hx hb dLW_law_375 ?_
        rw [show (nI i + (2 : Int32)) = nI (i + 2) from nI_add i 2]
        refine va_sld hx hb hX hbl hbA hS (vp_in_nI (show (i + 2) < L by omega) (by omega)) dLW_law_376 ?_
        rw [nI_clamp (show (i + 2) < 2 ^ 31 by omega)]
        refine x_iX (f := fun k => 0 + k) (x_runV (C := R_RW) (b := s.heap.size + 0) (As := [.int (xs (i + 1)), .int (xs (i + 2))]) (rest := []) X (g_RW_before l D tc (fun k => s.heap.size + (0 + k)) (fun k => F (0 + k)) st cs sz fo fa fb (xs (i + 1)) (xs (i + 2)) (by simpa only [Nat.zero_add] using hI)) rfl rfl (by decide) (by decide) w_226 w_1 w_223 w_224 w_225 ry_RW_before (x_recv X hP (by decide) hR0 rfl) (ct_pre X hP hD (fr_lt 66 84 0 (by omega)) (fr_inj 66 0)) ct_blind hl.1 (Nat.le_of_ble_eq_true rfl) dLW_law_377 ⟨by show _ ≤ 601024; omega, by show _ ≤ 7293034; omega⟩) hD hP hS (fr_lt 66 84 0 (by omega)) (fr_inj 66 0) (fun z H locs hz hD hP hS => ?_)
        refine lv_pop hx hb dLW_law_380 rfl ?_
        refine lv_aload_n hx hb dLW_law_381 rfl (lv_at hl 2 rfl) ?_
        refine lv_aload_n hx hb dLW_law_382 rfl (lv_at hl 4 rfl) ?_
        refine lv_iload hx hb dLW_law_383 (lv_at hl 0 rfl) ?_
        refine lv_iconst (v := 1) hx hb dLW_law_385 (by decide) ?_
        refine lv_iadd hx hb dLW_law_386 ?_
        rw [show (nI i + (1 : Int32)) = nI (i + 1) from nI_add i 1]
        refine va_sld hx hb hX hbl hbA hS (vp_in_nI (show (i + 1) < L by omega) (by omega)) dLW_law_387 ?_
        rw [nI_clamp (show (i + 1) < 2 ^ 31 by omega)]
        refine lv_aload_n hx hb dLW_law_388 rfl (lv_at hl 4 rfl) ?_
        refine lv_iload hx hb dLW_law_389 (lv_at hl 0 rfl) ?_
        refine lv_iconst (v := 2) hx hb dLW_law_391 (by decide) ?_
        refine lv_iadd hx hb dLW_law_392 ?_
        rw [show (nI i + (2 : Int32)) = nI (i + 2) from nI_add i 2]
        refine va_sld hx hb hX hbl hbA hS (vp_in_nI (show (i + 2) < L by omega) (by omega)) dLW_law_393 ?_
        rw [nI_clamp (show (i + 2) < 2 ^ 31 by omega)]
        obtain ⟨ic, cn, MA, MJ, hm, hc, q1, q2, q5⟩ := hM
        have hM0 : F 66 = _ := hm.1
        refine x_i (f := fun k => 66 + k) (x_runV (C := R_MD) (b := s.heap.size + 66) (As := [.int (xs (i + 1)), .int (xs (i + 2))]) (rest := []) X (g_MD_before l D tc (fun k => s.heap.size + (66 + k)) (fun k => F (66 + k)) th st ic cn MA MJ (xs (i + 1)) (xs (i + 2)) hm hc) rfl rfl (by decide) (by decide) w_641 w_9 w_638 w_639 w_640 ry_MD_before (x_recv X hP (by decide) hM0 rfl) (ct_pre X hP hD (fr_lt 17 84 66 (by omega)) (fr_inj 17 66)) ct_blind hl.1 (Nat.le_of_ble_eq_true rfl) dLW_law_394 ⟨by show _ ≤ 601024; omega, by show _ ≤ 7293034; omega⟩) hD hP hS (fr_lt 17 84 66 (by omega)) (fr_inj 17 66) (fun o E1 h => by obtain ⟨r, h1, -⟩ := h; exact ⟨r, h1⟩) (fun r2 E2 H locs k2 hD hP hS => ?_)
        obtain ⟨-, -, k2⟩ := k2
        generalize g9 : wU 17 (fun k => 66 + k) F E2 = F2 at hD hP
        have hI : RI tc (fun k => s.heap.size + k) F2 st cs sz fo fa fb := hI.cong (fun k hk => by rw [← g9]; exact wU_far (Or.inl (by omega)))
        have hO : F2 83 = .inl (tc 1, 1, .inr (.inl g)) := by rw [← g9, wU_far (Or.inr (by omega))]; exact hO
        have own : ∀ k, k < 17 → (fun k => F2 (66 + k)) k = E2 k := fun k hk => by show F2 (66 + k) = E2 k; rw [← g9]; exact wU_own k hk
        have hM : MI tc (fun k => s.heap.size + (66 + k)) (fun k => F2 (66 + k)) 0 st sz fo fa fb := ⟨ic, cn, MA, MJ, k2.cong own, hc, q1, q2, q5⟩
        refine lv_pop hx hb dLW_law_397 rfl ?_
        refine lv_goto (tgt := 517) hx hb dLW_law_398 rfl ?_
        exact tail _ _ (by omega) (by omega) H _ ls F2 st cs sz fo fa fb 0 g hI hM hO hP hS hl
      · refine lv_tableIn (tgt := 401) hx hb dLW_law_39 (by decide) (by decide) rfl rfl ?_
        refine lv_aload_n hx hb dLW_law_401 rfl (lv_at hl 3 rfl) ?_
        refine lv_aload_n hx hb dLW_law_402 rfl (lv_at hl 4 rfl) ?_
        refine lv_iload hx hb dLW_law_403 (lv_at hl 0 rfl) ?_
        refine lv_iconst (v := 1) hx hb dLW_law_405 (by decide) ?_
        refine lv_iadd hx hb dLW_law_406 ?_
        rw [show (nI i + (1 : Int32)) = nI (i + 1) from nI_add i 1]
        refine va_sld hx hb hX hbl hbA hS (vp_in_nI (show (i + 1) < L by omega) (by omega)) dLW_law_407 ?_
        rw [nI_clamp (show (i + 1) < 2 ^ 31 by omega)]
        refine x_iX (f := fun k => 0 + k) (x_runV (C := R_RW) (b := s.heap.size + 0) (As := [.int (xs (i + 1))]) (rest := []) X (g_RW_race l D tc (fun k => s.heap.size + (0 + k)) (fun k => F (0 + k)) st cs sz fo fa fb (xs (i + 1)) (by simpa only [Nat.zero_add] using hI)) rfl rfl (by decide) (by decide) w_238 w_1 w_235 w_236 w_237 ry_RW_race (x_recv X hP (by decide) hR0 rfl) (ct_pre X hP hD (fr_lt 66 84 0 (by omega)) (fr_inj 66 0)) ct_blind hl.1 (Nat.le_of_ble_eq_true rfl) dLW_law_408 ⟨by show _ ≤ 601024; omega, by show _ ≤ 7293034; omega⟩) hD hP hS (fr_lt 66 84 0 (by omega)) (fr_inj 66 0) (fun z H locs hz hD hP hS => ?_)
        refine lv_pop hx hb dLW_law_411 rfl ?_
        refine lv_aload_n hx hb dLW_law_412 rfl (lv_at hl 2 rfl) ?_
        refine lv_aload_n hx hb dLW_law_413 rfl (lv_at hl 4 rfl) ?_
        refine lv_iload hx hb dLW_law_414 (lv_at hl 0 rfl) ?_
        refine lv_iconst (v := 1) hx hb dLW_law_416 (by decide) ?_
        refine lv_iadd hx hb dLW_law_417 ?_
        rw [show (nI i + (1 : Int32)) = nI (i + 1) from nI_add i 1]
        refine va_sld hx hb hX hbl hbA hS (vp_in_nI (show (i + 1) < L by omega) (by omega)) dLW_law_418 ?_
        rw [nI_clamp (show (i + 1) < 2 ^ 31 by omega)]
        obtain ⟨ic, cn, MA, MJ, hm, hc, q1, q2, q5⟩ := hM
        have hM0 : F 66 = _ := hm.1
        refine x_i (f := fun k => 66 + k) (x_runV (C := R_MD) (b := s.heap.size + 66) (As := [.int (xs (i + 1))]) (rest := []) X (g_MD_race l D tc (fun k => s.heap.size + (66 + k)) (fun k => F (66 + k)) th st ic cn MA MJ (xs (i + 1)) hm hc) rfl rfl (by decide) (by decide) w_645 w_9 w_642 w_643 w_644 ry_MD_race (x_recv X hP (by decide) hM0 rfl) (ct_pre X hP hD (fr_lt 17 84 66 (by omega)) (fr_inj 17 66)) ct_blind hl.1 (Nat.le_of_ble_eq_true rfl) dLW_law_419 ⟨by show _ ≤ 601024; omega, by show _ ≤ 7293034; omega⟩) hD hP hS (fr_lt 17 84 66 (by omega)) (fr_inj 17 66) (fun o E1 h => by obtain ⟨r, h1, -⟩ := h; exact ⟨r, h1⟩) (fun r2 E2 H locs k2 hD hP hS => ?_)
        obtain ⟨-, -, k2⟩ := k2
        generalize g9 : wU 17 (fun k => 66 + k) F E2 = F2 at hD hP
        have hI : RI tc (fun k => s.heap.size + k) F2 st cs sz fo fa fb := hI.cong (fun k hk => by rw [← g9]; exact wU_far (Or.inl (by omega)))
        have hO : F2 83 = .inl (tc 1, 1, .inr (.inl g)) := by rw [← g9, wU_far (Or.inr (by omega))]; exact hO
        have own : ∀ k, k < 17 → (fun k => F2 (66 + k)) k = E2 k := fun k hk => by show F2 (66 + k) = E2 k; rw [← g9]; exact wU_own k hk
        have hM : MI tc (fun k => s.heap.size + (66 + k)) (fun k => F2 (66 + k)) 0 st sz fo fa fb := ⟨ic, cn, MA, MJ, k2.cong own, hc, q1, q2, q5⟩
        refine lv_pop hx hb dLW_law_422 rfl ?_
        refine lv_goto (tgt := 517) hx hb dLW_law_423 rfl ?_
        exact tail _ _ (by omega) (by omega) H _ ls F2 st cs sz fo fa fb 0 g hI hM hO hP hS hl
      · refine lv_tableIn (tgt := 426) hx hb dLW_law_39 (by decide) (by decide) rfl rfl ?_
        refine lv_aload_n hx hb dLW_law_426 rfl (lv_at hl 3 rfl) ?_
        refine lv_aload_n hx hb dLW_law_427 rfl (lv_at hl 4 rfl) ?_
        refine lv_iload hx hb dLW_law_428 (lv_at hl 0 rfl) ?_
        refine lv_iconst (v := 1) hx hb dLW_law_430 (by decide) ?_
        refine lv_iadd hx hb dLW_law_431 ?_
        rw [show (nI i + (1 : Int32)) = nI (i + 1) from nI_add i 1]
        refine va_sld hx hb hX hbl hbA hS (vp_in_nI (show (i + 1) < L by omega) (by omega)) dLW_law_432 ?_
        rw [nI_clamp (show (i + 1) < 2 ^ 31 by omega)]
        refine x_iX (f := fun k => 0 + k) (x_runV (C := R_RW) (b := s.heap.size + 0) (As := [.int (xs (i + 1))]) (rest := []) X (g_RW_partner l D tc (fun k => s.heap.size + (0 + k)) (fun k => F (0 + k)) st cs sz fo fa fb (xs (i + 1)) (by simpa only [Nat.zero_add] using hI)) rfl rfl (by decide) (by decide) w_250 w_1 w_247 w_248 w_249 ry_RW_partner (x_recv X hP (by decide) hR0 rfl) (ct_pre X hP hD (fr_lt 66 84 0 (by omega)) (fr_inj 66 0)) ct_blind hl.1 (Nat.le_of_ble_eq_true rfl) dLW_law_433 ⟨by show _ ≤ 601024; omega, by show _ ≤ 7293034; omega⟩) hD hP hS (fr_lt 66 84 0 (by omega)) (fr_inj 66 0) (fun z H locs hz hD hP hS => ?_)
        refine lv_pop hx hb dLW_law_436 rfl ?_
        refine lv_aload_n hx hb dLW_law_437 rfl (lv_at hl 2 rfl) ?_
        refine lv_aload_n hx hb dLW_law_438 rfl (lv_at hl 4 rfl) ?_
        refine lv_iload hx hb dLW_law_439 (lv_at hl 0 rfl) ?_
        refine lv_iconst (v := 1) hx hb dLW_law_441 (by decide) ?_
        refine lv_iadd hx hb dLW_law_442 ?_
        rw [show (nI i + (1 : Int32)) = nI (i + 1) from nI_add i 1]
        refine va_sld hx hb hX hbl hbA hS (vp_in_nI (show (i + 1) < L by omega) (by omega)) dLW_law_443 ?_
        rw [nI_clamp (show (i + 1) < 2 ^ 31 by omega)]
        obtain ⟨ic, cn, MA, MJ, hm, hc, q1, q2, q5⟩ := hM
        have hM0 : F 66 = _ := hm.1
        refine x_i (f := fun k => 66 + k) (x_runV (C := R_MD) (b := s.heap.size + 66) (As := [.int (xs (i + 1))]) (rest := []) X (g_MD_partner l D tc (fun k => s.heap.size + (66 + k)) (fun k => F (66 + k)) th st ic cn MA MJ (xs (i + 1)) hm hc) rfl rfl (by decide) (by decide) w_649 w_9 w_646 w_647 w_648 ry_MD_partner (x_recv X hP (by decide) hM0 rfl) (ct_pre X hP hD (fr_lt 17 84 66 (by omega)) (fr_inj 17 66)) ct_blind hl.1 (Nat.le_of_ble_eq_true rfl) dLW_law_444 ⟨by show _ ≤ 601024; omega, by show _ ≤ 7293034; omega⟩) hD hP hS (fr_lt 17 84 66 (by omega)) (fr_inj 17 66) (fun o E1 h => by obtain ⟨r, h1, -⟩ := h; exact ⟨r, h1⟩) (fun r2 E2 H locs k2 hD hP hS => ?_)
        obtain ⟨-, -, k2⟩ := k2
        generalize g9 : wU 17 (fun k => 66 + k) F E2 = F2 at hD hP
        have hI : RI tc (fun k => s.heap.size + k) F2 st cs sz fo fa fb := hI.cong (fun k hk => by rw [← g9]; exact wU_far (Or.inl (by omega)))
        have hO : F2 83 = .inl (tc 1, 1, .inr (.inl g)) := by rw [← g9, wU_far (Or.inr (by omega))]; exact hO
        have own : ∀ k, k < 17 → (fun k => F2 (66 + k)) k = E2 k := fun k hk => by show F2 (66 + k) = E2 k; rw [← g9]; exact wU_own k hk
        have hM : MI tc (fun k => s.heap.size + (66 + k)) (fun k => F2 (66 + k)) 0 st sz fo fa fb := ⟨ic, cn, MA, MJ, k2.cong own, hc, q1, q2, q5⟩
        refine lv_pop hx hb dLW_law_447 rfl ?_
        refine lv_goto (tgt := 517) hx hb dLW_law_448 rfl ?_
        exact tail _ _ (by omega) (by omega) H _ ls F2 st cs sz fo fa fb 0 g hI hM hO hP hS hl
      · refine lv_tableIn (tgt := 451) hx hb dLW_law_39 (by decide) (by decide) rfl rfl ?_
        refine lv_aload_n hx hb dLW_law_451 rfl (lv_at hl 3 rfl) ?_
        refine x_iX (f := fun k => 0 + k) (x_runV (C := R_RW) (b := s.heap.size + 0) (As := []) (rest := []) X (g_RW_races l D tc (fun k => s.heap.size + (0 + k)) (fun k => F (0 + k)) st cs sz fo fa fb  (by simpa only [Nat.zero_add] using hI)) rfl rfl (by decide) (by decide) w_254 w_1 w_251 w_252 w_253 ry_RW_races (x_recv X hP (by decide) hR0 rfl) (ct_pre X hP hD (fr_lt 66 84 0 (by omega)) (fr_inj 66 0)) ct_blind hl.1 (Nat.le_of_ble_eq_true rfl) dLW_law_452 ⟨by show _ ≤ 601024; omega, by show _ ≤ 7293034; omega⟩) hD hP hS (fr_lt 66 84 0 (by omega)) (fr_inj 66 0) (fun z H locs hz hD hP hS => ?_)
        refine lv_pop hx hb dLW_law_455 rfl ?_
        refine lv_aload_n hx hb dLW_law_456 rfl (lv_at hl 2 rfl) ?_
        obtain ⟨ic, cn, MA, MJ, hm, hc, q1, q2, q5⟩ := hM
        have hM0 : F 66 = _ := hm.1
        refine x_i (f := fun k => 66 + k) (x_runV (C := R_MD) (b := s.heap.size + 66) (As := []) (rest := []) X (g_MD_races l D tc (fun k => s.heap.size + (66 + k)) (fun k => F (66 + k)) th st ic cn MA MJ  hm hc) rfl rfl (by decide) (by decide) w_653 w_9 w_650 w_651 w_652 ry_MD_races (x_recv X hP (by decide) hM0 rfl) (ct_pre X hP hD (fr_lt 17 84 66 (by omega)) (fr_inj 17 66)) ct_blind hl.1 (Nat.le_of_ble_eq_true rfl) dLW_law_457 ⟨by show _ ≤ 601024; omega, by show _ ≤ 7293034; omega⟩) hD hP hS (fr_lt 17 84 66 (by omega)) (fr_inj 17 66) (fun o E1 h => by obtain ⟨r, h1, -⟩ := h; exact ⟨r, h1⟩) (fun r2 E2 H locs k2 hD hP hS => ?_)
        obtain ⟨-, -, k2⟩ := k2
        generalize g9 : wU 17 (fun k => 66 + k) F E2 = F2 at hD hP
        have hI : RI tc (fun k => s.heap.size + k) F2 st cs sz fo fa fb := hI.cong (fun k hk => by rw [← g9]; exact wU_far (Or.inl (by omega)))
        have hO : F2 83 = .inl (tc 1, 1, .inr (.inl g)) := by rw [← g9, wU_far (Or.inr (by omega))]; exact hO
        have own : ∀ k, k < 17 → (fun k => F2 (66 + k)) k = E2 k := fun k hk => by show F2 (66 + k) = E2 k; rw [← g9]; exact wU_own k hk
        have hM : MI tc (fun k => s.heap.size + (66 + k)) (fun k => F2 (66 + k)) 0 st sz fo fa fb := ⟨ic, cn, MA, MJ, k2.cong own, hc, q1, q2, q5⟩
        refine lv_pop hx hb dLW_law_460 rfl ?_
        refine lv_goto (tgt := 517) hx hb dLW_law_461 rfl ?_
        exact tail _ _ (by omega) (by omega) H _ ls F2 st cs sz fo fa fb 0 g hI hM hO hP hS hl
      · refine lv_tableIn (tgt := 464) hx hb dLW_law_39 (by decide) (by decide) rfl rfl ?_
        refine lv_aload_n hx hb dLW_law_464 rfl (lv_at hl 3 rfl) ?_
        refine lv_aload_n hx hb dLW_law_465 rfl (lv_at hl 4 rfl) ?_
        refine lv_iload hx hb dLW_law_466 (lv_at hl 0 rfl) ?_
        refine lv_iconst (v := 1) hx hb dLW_law_468 (by decide) ?_
        refine lv_iadd hx hb dLW_law_469 ?_
        rw [show (nI i + (1 : Int32)) = nI (i + 1) from nI_add i 1]
        refine va_sld hx hb hX hbl hbA hS (vp_in_nI (show (i + 1) < L by omega) (by omega)) dLW_law_470 ?_
        rw [nI_clamp (show (i + 1) < 2 ^ 31 by omega)]
        refine lv_aload_n hx hb dLW_law_471 rfl (lv_at hl 4 rfl) ?_
        refine lv_iload hx hb dLW_law_472 (lv_at hl 0 rfl) ?_
        refine lv_iconst (v := 2) hx hb dLW_law_474 (by decide) ?_
        refine lv_iadd hx hb dLW_law_475 ?_
        rw [show (nI i + (2 : Int32)) = nI (i + 2) from nI_add i 2]
        refine va_sld hx hb hX hbl hbA hS (vp_in_nI (show (i + 2) < L by omega) (by omega)) dLW_law_476 ?_
        rw [nI_clamp (show (i + 2) < 2 ^ 31 by omega)]
        refine lv_if_eq (tgt := 484) hx hb dLW_law_477 rfl (fun hcc => ?_) (fun hcc => ?_)
        · skip
          refine lv_iconst (v := 0) hx hb dLW_law_484 (by decide) ?_
          refine x_iX (f := fun k => 0 + k) (x_runV (C := R_RW) (b := s.heap.size + 0) (As := [.int (xs (i + 1)), .int 0]) (rest := []) X (g_RW_again l D tc (fun k => s.heap.size + (0 + k)) (fun k => F (0 + k)) st cs sz fo fa fb (xs (i + 1)) 0 (by simpa only [Nat.zero_add] using hI)) rfl rfl (by decide) (by decide) w_268 w_1 w_265 w_266 w_267 ry_RW_again (x_recv X hP (by decide) hR0 rfl) (ct_pre X hP hD (fr_lt 66 84 0 (by omega)) (fr_inj 66 0)) ct_blind hl.1 (Nat.le_of_ble_eq_true rfl) dLW_law_485 ⟨by show _ ≤ 601024; omega, by show _ ≤ 7293034; omega⟩) hD hP hS (fr_lt 66 84 0 (by omega)) (fr_inj 66 0) (fun z H locs hz hD hP hS => ?_)
          refine lv_pop hx hb dLW_law_488 rfl ?_
          refine lv_aload_n hx hb dLW_law_489 rfl (lv_at hl 2 rfl) ?_
          refine lv_aload_n hx hb dLW_law_490 rfl (lv_at hl 4 rfl) ?_
          refine lv_iload hx hb dLW_law_491 (lv_at hl 0 rfl) ?_
          refine lv_iconst (v := 1) hx hb dLW_law_493 (by decide) ?_
          refine lv_iadd hx hb dLW_law_494 ?_
          rw [show (nI i + (1 : Int32)) = nI (i + 1) from nI_add i 1]
          refine va_sld hx hb hX hbl hbA hS (vp_in_nI (show (i + 1) < L by omega) (by omega)) dLW_law_495 ?_
          rw [nI_clamp (show (i + 1) < 2 ^ 31 by omega)]
          refine lv_aload_n hx hb dLW_law_496 rfl (lv_at hl 4 rfl) ?_
          refine lv_iload hx hb dLW_law_497 (lv_at hl 0 rfl) ?_
          refine lv_iconst (v := 2) hx hb dLW_law_499 (by decide) ?_
          refine lv_iadd hx hb dLW_law_500 ?_
          rw [show (nI i + (2 : Int32)) = nI (i + 2) from nI_add i 2]
          refine va_sld hx hb hX hbl hbA hS (vp_in_nI (show (i + 2) < L by omega) (by omega)) dLW_law_501 ?_
          rw [nI_clamp (show (i + 2) < 2 ^ 31 by omega)]
          refine lv_if_eq (tgt := 509) hx hb dLW_law_502 rfl (fun _ => ?_) (fun h => absurd hcc h)
          refine lv_iconst (v := 0) hx hb dLW_law_509 (by decide) ?_
          obtain ⟨ic, cn, MA, MJ, hm, hc, q1, q2, q5⟩ := hM
          have hM0 : F 66 = _ := hm.1
          refine x_i (f := fun k => 66 + k) (x_runV (C := R_MD) (b := s.heap.size + 66) (As := [.int (xs (i + 1)), .int 0]) (rest := []) X (g_MD_again l D tc (fun k => s.heap.size + (66 + k)) (fun k => F (66 + k)) th st ic cn MA MJ (xs (i + 1)) 0 hm hc) rfl rfl (by decide) (by decide) w_657 w_9 w_654 w_655 w_656 ry_MD_again (x_recv X hP (by decide) hM0 rfl) (ct_pre X hP hD (fr_lt 17 84 66 (by omega)) (fr_inj 17 66)) ct_blind hl.1 (Nat.le_of_ble_eq_true rfl) dLW_law_510 ⟨by show _ ≤ 601024; omega, by show _ ≤ 7293034; omega⟩) hD hP hS (fr_lt 17 84 66 (by omega)) (fr_inj 17 66) (fun o E1 h => by obtain ⟨r, h1, -⟩ := h; exact ⟨r, h1⟩) (fun r2 E2 H locs k2 hD hP hS => ?_)
          obtain ⟨-, -, k2⟩ := k2
          generalize g9 : wU 17 (fun k => 66 + k) F E2 = F2 at hD hP
          have hI : RI tc (fun k => s.heap.size + k) F2 st cs sz fo fa fb := hI.cong (fun k hk => by rw [← g9]; exact wU_far (Or.inl (by omega)))
          have hO : F2 83 = .inl (tc 1, 1, .inr (.inl g)) := by rw [← g9, wU_far (Or.inr (by omega))]; exact hO
          have own : ∀ k, k < 17 → (fun k => F2 (66 + k)) k = E2 k := fun k hk => by show F2 (66 + k) = E2 k; rw [← g9]; exact wU_own k hk
          have hM : MI tc (fun k => s.heap.size + (66 + k)) (fun k => F2 (66 + k)) 0 st sz fo fa fb := ⟨ic, cn, MA, MJ, k2.cong own, hc, q1, q2, q5⟩
          refine lv_pop hx hb dLW_law_513 rfl ?_
          refine lv_goto (tgt := 517) hx hb dLW_law_514 rfl ?_
          exact tail _ _ (by omega) (by omega) H _ ls F2 st cs sz fo fa fb 0 g hI hM hO hP hS hl
        · skip
          refine lv_iconst (v := 1) hx hb dLW_law_480 (by decide) ?_
          refine lv_goto (tgt := 485) hx hb dLW_law_481 rfl ?_
          refine x_iX (f := fun k => 0 + k) (x_runV (C := R_RW) (b := s.heap.size + 0) (As := [.int (xs (i + 1)), .int 1]) (rest := []) X (g_RW_again l D tc (fun k => s.heap.size + (0 + k)) (fun k => F (0 + k)) st cs sz fo fa fb (xs (i + 1)) 1 (by simpa only [Nat.zero_add] using hI)) rfl rfl (by decide) (by decide) w_268 w_1 w_265 w_266 w_267 ry_RW_again (x_recv X hP (by decide) hR0 rfl) (ct_pre X hP hD (fr_lt 66 84 0 (by omega)) (fr_inj 66 0)) ct_blind hl.1 (Nat.le_of_ble_eq_true rfl) dLW_law_485 ⟨by show _ ≤ 601024; omega, by show _ ≤ 7293034; omega⟩) hD hP hS (fr_lt 66 84 0 (by omega)) (fr_inj 66 0) (fun z H locs hz hD hP hS => ?_)
          refine lv_pop hx hb dLW_law_488 rfl ?_
          refine lv_aload_n hx hb dLW_law_489 rfl (lv_at hl 2 rfl) ?_
          refine lv_aload_n hx hb dLW_law_490 rfl (lv_at hl 4 rfl) ?_
          refine lv_iload hx hb dLW_law_491 (lv_at hl 0 rfl) ?_
          refine lv_iconst (v := 1) hx hb dLW_law_493 (by decide) ?_
          refine lv_iadd hx hb dLW_law_494 ?_
          rw [show (nI i + (1 : Int32)) = nI (i + 1) from nI_add i 1]
          refine va_sld hx hb hX hbl hbA hS (vp_in_nI (show (i + 1) < L by omega) (by omega)) dLW_law_495 ?_
          rw [nI_clamp (show (i + 1) < 2 ^ 31 by omega)]
          refine lv_aload_n hx hb dLW_law_496 rfl (lv_at hl 4 rfl) ?_
          refine lv_iload hx hb dLW_law_497 (lv_at hl 0 rfl) ?_
          refine lv_iconst (v := 2) hx hb dLW_law_499 (by decide) ?_
          refine lv_iadd hx hb dLW_law_500 ?_
          rw [show (nI i + (2 : Int32)) = nI (i + 2) from nI_add i 2]
          refine va_sld hx hb hX hbl hbA hS (vp_in_nI (show (i + 2) < L by omega) (by omega)) dLW_law_501 ?_
          rw [nI_clamp (show (i + 2) < 2 ^ 31 by omega)]
          refine lv_if_eq (tgt := 509) hx hb dLW_law_502 rfl (fun h => absurd h hcc) (fun _ => ?_)
          refine lv_iconst (v := 1) hx hb dLW_law_505 (by decide) ?_
          refine lv_goto (tgt := 510) hx hb dLW_law_506 rfl ?_
          obtain ⟨ic, cn, MA, MJ, hm, hc, q1, q2, q5⟩ := hM
          have hM0 : F 66 = _ := hm.1
          refine x_i (f := fun k => 66 + k) (x_runV (C := R_MD) (b := s.heap.size + 66) (As := [.int (xs (i + 1)), .int 1]) (rest := []) X (g_MD_again l D tc (fun k => s.heap.size + (66 + k)) (fun k => F (66 + k)) th st ic cn MA MJ (xs (i + 1)) 1 hm hc) rfl rfl (by decide) (by decide) w_657 w_9 w_654 w_655 w_656 ry_MD_again (x_recv X hP (by decide) hM0 rfl) (ct_pre X hP hD (fr_lt 17 84 66 (by omega)) (fr_inj 17 66)) ct_blind hl.1 (Nat.le_of_ble_eq_true rfl) dLW_law_510 ⟨by show _ ≤ 601024; omega, by show _ ≤ 7293034; omega⟩) hD hP hS (fr_lt 17 84 66 (by omega)) (fr_inj 17 66) (fun o E1 h => by obtain ⟨r, h1, -⟩ := h; exact ⟨r, h1⟩) (fun r2 E2 H locs k2 hD hP hS => ?_)
          obtain ⟨-, -, k2⟩ := k2
          generalize g9 : wU 17 (fun k => 66 + k) F E2 = F2 at hD hP
          have hI : RI tc (fun k => s.heap.size + k) F2 st cs sz fo fa fb := hI.cong (fun k hk => by rw [← g9]; exact wU_far (Or.inl (by omega)))
          have hO : F2 83 = .inl (tc 1, 1, .inr (.inl g)) := by rw [← g9, wU_far (Or.inr (by omega))]; exact hO
          have own : ∀ k, k < 17 → (fun k => F2 (66 + k)) k = E2 k := fun k hk => by show F2 (66 + k) = E2 k; rw [← g9]; exact wU_own k hk
          have hM : MI tc (fun k => s.heap.size + (66 + k)) (fun k => F2 (66 + k)) 0 st sz fo fa fb := ⟨ic, cn, MA, MJ, k2.cong own, hc, q1, q2, q5⟩
          refine lv_pop hx hb dLW_law_513 rfl ?_
          refine lv_goto (tgt := 517) hx hb dLW_law_514 rfl ?_
          exact tail _ _ (by omega) (by omega) H _ ls F2 st cs sz fo fa fb 0 g hI hM hO hP hS hl
      · refine lv_tableOut (tgt := 517) hx hb dLW_law_39 (by decide) rfl ?_
        exact tail _ _ (by omega) (by omega) H _ ls F st cs sz fo fa fb th g hI hM hO hP hS hl
      · refine lv_tableOut (tgt := 517) hx hb dLW_law_39 (by decide) rfl ?_
        exact tail _ _ (by omega) (by omega) H _ ls F st cs sz fo fa fb th g hI hM hO hP hS hl
      · refine lv_tableOut (tgt := 517) hx hb dLW_law_39 (by decide) rfl ?_
        exact tail _ _ (by omega) (by omega) H _ ls F st cs sz fo fa fb th g hI hM hO hP hS hl
  -- the objects
  have hP : va_P D vwCl (wW 0 (fun k => s.heap.size + k) (fun _ => .inr (0, []))) s.heap := fun k q hk => (Nat.not_lt_zero k (wW_inv hk).1).elim
  refine q_newO0 (T := T_RW) (ci := 6) (fs := [.null, .null, .null, .null, .null, .null, .null, .int 0, .int 0]) ty_RW X in_RW tok_RW w_20 w_21 w_1 rfl (by decide) hP hS (fun j hj => rfl) (Nat.le_add_right _ _) (by decide) (by decide) dLW_law_0 (fun H hP hS => ?_)
  refine lv_dup hx hb dLW_law_3 rfl ?_
  have e0 : va_up (fun _ => .inr (0, [])) 0 (.inr (6, [.null, .null, .null, .null, .null, .null, .null, .int 0, .int 0])) 0 = (.inr (6, [.null, .null, .null, .null, .null, .null, .null, .int 0, .int 0]) : va_E) := va_up_self _ _ _
  refine x_n0 (b := 0) (fun hz => x_runI (b := s.heap.size + 0) (As := []) (rest := [.ref (s.heap.size + 0)]) X (c_RW_init l D tc (fun k => s.heap.size + (0 + k)) _ e0) rfl rfl (by decide) (by decide) w_24 w_1 w_22 w_23 rfl ry_RW_init (ctN_pre0 (b := 0) X rfl hP (fun j hj => rfl) hz) ctN_blind hl.1 (Nat.le_of_ble_eq_true rfl) dLW_law_4 ⟨by decide, by decide⟩) rfl hP hS (fun j hj => rfl) (fun n hn E' => hDD n E') (fun E1 H locs q1 hP hS => ?_)
  have hP : va_P D vwCl (wW 66 (fun k => s.heap.size + k) (wU (1 + 65) (fun k => 0 + k) (va_up (fun _ => .inr (0, [])) 0 (.inr (6, [.null, .null, .null, .null, .null, .null, .null, .int 0, .int 0]))) E1)) H := hP
  generalize g1 : wU (1 + 65) (fun k => 0 + k) (va_up (fun _ => .inr (0, [])) 0 (.inr (6, [.null, .null, .null, .null, .null, .null, .null, .int 0, .int 0]))) E1 = F1 at hP
  have r1 : RWf tc (fun k => s.heap.size + k) F1 := by
    have h : RWf tc (fun k => s.heap.size + (0 + k)) E1 := q1
    simp only [Nat.zero_add] at h
    exact h.cong (fun k hk => by rw [← g1]; have := wU_own (m := 1 + 65) (b := 0) (F := va_up (fun _ => .inr (0, [])) 0 (.inr (6, [.null, .null, .null, .null, .null, .null, .null, .int 0, .int 0]))) (E1 := E1) k (by omega); rwa [Nat.zero_add] at this)
  refine lv_astore_n hx hb dLW_law_7 rfl hl (by decide) rfl (fun ls hl => ?_)
  have hl : lv_has ls 7 [(1, .ref (s.heap.size + 0)), (0, .ref b)] := hl
  refine q_newO0 (T := T_MD) (ci := 7) (fs := [.int 0, .int 0, .int 0, .null, .null, .null, .null, .null, .null, .null, .null, .null, .int 0, .null, .null, .null, .null, .null, .null, .null]) ty_MD X in_MD tok_MD w_489 w_490 w_9 rfl (by decide) hP hS (fun j hj => rfl) (Nat.le_add_right _ _) (by decide) (by decide) dLW_law_8 (fun H hP hS => ?_)
  refine lv_dup hx hb dLW_law_11 rfl ?_
  have e1 : va_up F1 66 (.inr (7, [.int 0, .int 0, .int 0, .null, .null, .null, .null, .null, .null, .null, .null, .null, .int 0, .null, .null, .null, .null, .null, .null, .null])) (66 + 0) = (.inr (7, [.int 0, .int 0, .int 0, .null, .null, .null, .null, .null, .null, .null, .null, .null, .int 0, .null, .null, .null, .null, .null, .null, .null]) : va_E) := va_up_self _ _ _
  refine x_n0 (b := 66) (fun hz => x_runI (b := s.heap.size + 66) (As := []) (rest := [.ref (s.heap.size + 66)]) X (c_MD_init l D tc (fun k => s.heap.size + (66 + k)) (fun k => va_up F1 66 (.inr (7, [.int 0, .int 0, .int 0, .null, .null, .null, .null, .null, .null, .null, .null, .null, .int 0, .null, .null, .null, .null, .null, .null, .null])) (66 + k)) e1) rfl rfl (by decide) (by decide) w_493 w_9 w_491 w_492 rfl ry_MD_init (ctN_pre0 (b := 66) X rfl hP (fun j hj => rfl) hz) ctN_blind hl.1 (Nat.le_of_ble_eq_true rfl) dLW_law_12 ⟨by decide, by decide⟩) rfl hP hS (fun j hj => rfl) (fun n hn E' => hDD n E') (fun E2 H locs q2 hP hS => ?_)
  have hP : va_P D vwCl (wW 83 (fun k => s.heap.size + k) (wU (1 + 16) (fun k => 66 + k) (va_up F1 66 (.inr (7, [.int 0, .int 0, .int 0, .null, .null, .null, .null, .null, .null, .null, .null, .null, .int 0, .null, .null, .null, .null, .null, .null, .null]))) E2)) H := hP
  generalize g2 : wU (1 + 16) (fun k => 66 + k) (va_up F1 66 (.inr (7, [.int 0, .int 0, .int 0, .null, .null, .null, .null, .null, .null, .null, .null, .null, .int 0, .null, .null, .null, .null, .null, .null, .null]))) E2 = F2 at hP
  have r2 : RWf tc (fun k => s.heap.size + k) F2 := r1.cong (fun k hk => by rw [← g2, wU_far (by omega), va_up_ne _ _ (by omega)])
  have s2 : MDf tc (fun k => s.heap.size + (66 + k)) (fun k => F2 (66 + k)) 0 := MDf.cong q2 (fun k hk => by show F2 (66 + k) = E2 k; rw [← g2]; exact wU_own k (by omega))
  refine lv_astore_n hx hb dLW_law_15 rfl hl (by decide) rfl (fun ls hl => ?_)
  have hl : lv_has ls 7 [(2, .ref (s.heap.size + 66)), (1, .ref (s.heap.size + 0)), (0, .ref b)] := hl
  refine lv_iconst (v := 1) hx hb dLW_law_16 (by decide) ?_
  refine q_newJ0 1 X w_540 hP hS (fun j hj => rfl) (Nat.le_add_right _ _) rfl (by decide) (by decide) (by decide) dLW_law_17 (fun H hP hS => ?_)
  have hP : va_P D vwCl (wW 84 (fun k => s.heap.size + k) (va_up F2 83 (.inl (tc 1, 1, .inr (.inl (fun _ => 0)))))) H := hP
  generalize g3 : va_up F2 83 (.inl (tc 1, 1, .inr (.inl (fun _ => 0)))) = F at hP
  have hRF : RWf tc (fun k => s.heap.size + k) F := r2.cong (fun k hk => by rw [← g3, va_up_ne _ _ (by omega)])
  have hMF : MDf tc (fun k => s.heap.size + (66 + k)) (fun k => F (66 + k)) 0 := s2.cong (fun k hk => by show F (66 + k) = F2 (66 + k); rw [← g3, va_up_ne _ _ (by omega)])
  have hO : F 83 = .inl (tc 1, 1, .inr (.inl (fun _ => 0))) := by rw [← g3]; exact va_up_self _ _ _
  refine lv_astore_n hx hb dLW_law_19 rfl hl (by decide) rfl (fun ls hl => ?_)
  refine lv_iconst (v := 0) hx hb dLW_law_20 (by decide) ?_
  refine lv_istore hx hb dLW_law_21 hl (by decide) rfl (fun ls hl => ?_)
  refine W.widen (k := 84 + 0) (n := 3495 + 6 * 0) (by decide) (by decide) ?_
  have hl : lv_has ls 7 [(4, .int (nI 0)), (3, .ref (s.heap.size + 83)), (2, .ref (s.heap.size + 66)), (1, .ref (s.heap.size + 0)), (0, .ref b)] := hl
  obtain ⟨fo, fa, fb, hI⟩ := hRF.ri
  exact loop L 0 (by omega) (Nat.zero_le _) H _ ls F 0 0 (fun _ => 0) fo fa fb 0 _ hI hMF.mi hO hP hS hl
