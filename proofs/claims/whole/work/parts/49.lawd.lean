theorem dL_law_0 : decode bL_law 0 = .ok (.new 8, 3) := by decide +kernel
theorem dL_law_3 : decode bL_law 3 = .ok (.dup, 1) := by decide +kernel
theorem dL_law_4 : decode bL_law 4 = .ok (.invokespecial 73, 3) := by decide +kernel
theorem dL_law_7 : decode bL_law 7 = .ok (.astore_n 1, 1) := by decide +kernel
theorem dL_law_8 : decode bL_law 8 = .ok (.new 74, 3) := by decide +kernel
theorem dL_law_11 : decode bL_law 11 = .ok (.dup, 1) := by decide +kernel
theorem dL_law_12 : decode bL_law 12 = .ok (.invokespecial 76, 3) := by decide +kernel
theorem dL_law_15 : decode bL_law 15 = .ok (.astore_n 2, 1) := by decide +kernel
theorem dL_law_16 : decode bL_law 16 = .ok (.iconst 1, 1) := by decide +kernel
theorem dL_law_17 : decode bL_law 17 = .ok (.newarray .long, 2) := by decide +kernel
theorem dL_law_19 : decode bL_law 19 = .ok (.astore_n 3, 1) := by decide +kernel
theorem dL_law_20 : decode bL_law 20 = .ok (.iconst 0, 1) := by decide +kernel
theorem dL_law_21 : decode bL_law 21 = .ok (.istore 4, 2) := by decide +kernel
theorem dL_law_23 : decode bL_law 23 = .ok (.iload 4, 2) := by decide +kernel
theorem dL_law_25 : decode bL_law 25 = .ok (.aload_n 0, 1) := by decide +kernel
theorem dL_law_26 : decode bL_law 26 = .ok (.arraylength, 1) := by decide +kernel
theorem dL_law_27 : decode bL_law 27 = .ok (.bipush 6, 2) := by decide +kernel
theorem dL_law_29 : decode bL_law 29 = .ok (.isub, 1) := by decide +kernel
theorem dL_law_30 : decode bL_law 30 = .ok (.if_icmp .gt 1250, 3) := by decide +kernel
theorem dL_law_33 : decode bL_law 33 = .ok (.aload_n 0, 1) := by decide +kernel
theorem dL_law_34 : decode bL_law 34 = .ok (.iload 4, 2) := by decide +kernel
theorem dL_law_36 : decode bL_law 36 = .ok (.iaload, 1) := by decide +kernel
theorem dL_law_37 : decode bL_law 37 = .ok (.bipush 15, 2) := by decide +kernel
theorem dL_law_39 : decode bL_law 39 = .ok (.iand, 1) := by decide +kernel
theorem dL_law_40 : decode bL_law 40 = .ok (.tableswitch 1234 0 14 #[76, 136, 196, 264, 320, 412, 495, 595, 655, 739, 827, 899, 995, 1098, 1166], 76) := by decide +kernel
theorem dL_law_116 : decode bL_law 116 = .ok (.aload_n 1, 1) := by decide +kernel
theorem dL_law_117 : decode bL_law 117 = .ok (.aload_n 0, 1) := by decide +kernel
theorem dL_law_118 : decode bL_law 118 = .ok (.iload 4, 2) := by decide +kernel
theorem dL_law_120 : decode bL_law 120 = .ok (.iconst 1, 1) := by decide +kernel
theorem dL_law_121 : decode bL_law 121 = .ok (.iadd, 1) := by decide +kernel
theorem dL_law_122 : decode bL_law 122 = .ok (.iaload, 1) := by decide +kernel
theorem dL_law_123 : decode bL_law 123 = .ok (.aload_n 0, 1) := by decide +kernel
theorem dL_law_124 : decode bL_law 124 = .ok (.iload 4, 2) := by decide +kernel
theorem dL_law_126 : decode bL_law 126 = .ok (.iconst 2, 1) := by decide +kernel
theorem dL_law_127 : decode bL_law 127 = .ok (.iadd, 1) := by decide +kernel
theorem dL_law_128 : decode bL_law 128 = .ok (.iaload, 1) := by decide +kernel
theorem dL_law_129 : decode bL_law 129 = .ok (.aload_n 0, 1) := by decide +kernel
theorem dL_law_130 : decode bL_law 130 = .ok (.iload 4, 2) := by decide +kernel
theorem dL_law_132 : decode bL_law 132 = .ok (.iconst 3, 1) := by decide +kernel
theorem dL_law_133 : decode bL_law 133 = .ok (.iadd, 1) := by decide +kernel
theorem dL_law_134 : decode bL_law 134 = .ok (.iaload, 1) := by decide +kernel
theorem dL_law_135 : decode bL_law 135 = .ok (.invokestatic 77, 3) := by decide +kernel
theorem dL_law_138 : decode bL_law 138 = .ok (.istore 5, 2) := by decide +kernel
theorem dL_law_140 : decode bL_law 140 = .ok (.aload_n 2, 1) := by decide +kernel
theorem dL_law_141 : decode bL_law 141 = .ok (.aload_n 0, 1) := by decide +kernel
theorem dL_law_142 : decode bL_law 142 = .ok (.iload 4, 2) := by decide +kernel
theorem dL_law_144 : decode bL_law 144 = .ok (.iconst 1, 1) := by decide +kernel
theorem dL_law_145 : decode bL_law 145 = .ok (.iadd, 1) := by decide +kernel
theorem dL_law_146 : decode bL_law 146 = .ok (.iaload, 1) := by decide +kernel
theorem dL_law_147 : decode bL_law 147 = .ok (.aload_n 0, 1) := by decide +kernel
theorem dL_law_148 : decode bL_law 148 = .ok (.iload 4, 2) := by decide +kernel
theorem dL_law_150 : decode bL_law 150 = .ok (.iconst 2, 1) := by decide +kernel
theorem dL_law_151 : decode bL_law 151 = .ok (.iadd, 1) := by decide +kernel
theorem dL_law_152 : decode bL_law 152 = .ok (.iaload, 1) := by decide +kernel
theorem dL_law_153 : decode bL_law 153 = .ok (.aload_n 0, 1) := by decide +kernel
theorem dL_law_154 : decode bL_law 154 = .ok (.iload 4, 2) := by decide +kernel
theorem dL_law_156 : decode bL_law 156 = .ok (.iconst 3, 1) := by decide +kernel
theorem dL_law_157 : decode bL_law 157 = .ok (.iadd, 1) := by decide +kernel
theorem dL_law_158 : decode bL_law 158 = .ok (.iaload, 1) := by decide +kernel
theorem dL_law_159 : decode bL_law 159 = .ok (.invokevirtual 82, 3) := by decide +kernel
theorem dL_law_162 : decode bL_law 162 = .ok (.aload_n 2, 1) := by decide +kernel
theorem dL_law_163 : decode bL_law 163 = .ok (.invokevirtual 83, 3) := by decide +kernel
theorem dL_law_166 : decode bL_law 166 = .ok (.iload 5, 2) := by decide +kernel
theorem dL_law_168 : decode bL_law 168 = .ok (.if_icmp .eq 5, 3) := by decide +kernel
theorem dL_law_171 : decode bL_law 171 = .ok (.iconst 0, 1) := by decide +kernel
theorem dL_law_172 : decode bL_law 172 = .ok (.ireturn, 1) := by decide +kernel
theorem dL_law_173 : decode bL_law 173 = .ok (.goto 1101, 3) := by decide +kernel
theorem dL_law_176 : decode bL_law 176 = .ok (.aload_n 1, 1) := by decide +kernel
theorem dL_law_177 : decode bL_law 177 = .ok (.aload_n 0, 1) := by decide +kernel
theorem dL_law_178 : decode bL_law 178 = .ok (.iload 4, 2) := by decide +kernel
theorem dL_law_180 : decode bL_law 180 = .ok (.iconst 1, 1) := by decide +kernel
theorem dL_law_181 : decode bL_law 181 = .ok (.iadd, 1) := by decide +kernel
theorem dL_law_182 : decode bL_law 182 = .ok (.iaload, 1) := by decide +kernel
theorem dL_law_183 : decode bL_law 183 = .ok (.aload_n 0, 1) := by decide +kernel
theorem dL_law_184 : decode bL_law 184 = .ok (.iload 4, 2) := by decide +kernel
theorem dL_law_186 : decode bL_law 186 = .ok (.iconst 2, 1) := by decide +kernel
theorem dL_law_187 : decode bL_law 187 = .ok (.iadd, 1) := by decide +kernel
theorem dL_law_188 : decode bL_law 188 = .ok (.iaload, 1) := by decide +kernel
theorem dL_law_189 : decode bL_law 189 = .ok (.aload_n 0, 1) := by decide +kernel
theorem dL_law_190 : decode bL_law 190 = .ok (.iload 4, 2) := by decide +kernel
theorem dL_law_192 : decode bL_law 192 = .ok (.iconst 3, 1) := by decide +kernel
theorem dL_law_193 : decode bL_law 193 = .ok (.iadd, 1) := by decide +kernel
theorem dL_law_194 : decode bL_law 194 = .ok (.iaload, 1) := by decide +kernel
theorem dL_law_195 : decode bL_law 195 = .ok (.invokestatic 87, 3) := by decide +kernel
theorem dL_law_198 : decode bL_law 198 = .ok (.istore 5, 2) := by decide +kernel
theorem dL_law_200 : decode bL_law 200 = .ok (.aload_n 2, 1) := by decide +kernel
theorem dL_law_201 : decode bL_law 201 = .ok (.aload_n 0, 1) := by decide +kernel
theorem dL_law_202 : decode bL_law 202 = .ok (.iload 4, 2) := by decide +kernel
theorem dL_law_204 : decode bL_law 204 = .ok (.iconst 1, 1) := by decide +kernel
theorem dL_law_205 : decode bL_law 205 = .ok (.iadd, 1) := by decide +kernel
theorem dL_law_206 : decode bL_law 206 = .ok (.iaload, 1) := by decide +kernel
theorem dL_law_207 : decode bL_law 207 = .ok (.aload_n 0, 1) := by decide +kernel
theorem dL_law_208 : decode bL_law 208 = .ok (.iload 4, 2) := by decide +kernel
theorem dL_law_210 : decode bL_law 210 = .ok (.iconst 2, 1) := by decide +kernel
theorem dL_law_211 : decode bL_law 211 = .ok (.iadd, 1) := by decide +kernel
theorem dL_law_212 : decode bL_law 212 = .ok (.iaload, 1) := by decide +kernel
theorem dL_law_213 : decode bL_law 213 = .ok (.aload_n 0, 1) := by decide +kernel
theorem dL_law_214 : decode bL_law 214 = .ok (.iload 4, 2) := by decide +kernel
theorem dL_law_216 : decode bL_law 216 = .ok (.iconst 3, 1) := by decide +kernel
theorem dL_law_217 : decode bL_law 217 = .ok (.iadd, 1) := by decide +kernel
theorem dL_law_218 : decode bL_law 218 = .ok (.iaload, 1) := by decide +kernel
theorem dL_law_219 : decode bL_law 219 = .ok (.invokevirtual 89, 3) := by decide +kernel
theorem dL_law_222 : decode bL_law 222 = .ok (.aload_n 2, 1) := by decide +kernel
theorem dL_law_223 : decode bL_law 223 = .ok (.invokevirtual 83, 3) := by decide +kernel
theorem dL_law_226 : decode bL_law 226 = .ok (.iload 5, 2) := by decide +kernel
theorem dL_law_228 : decode bL_law 228 = .ok (.if_icmp .eq 5, 3) := by decide +kernel
theorem dL_law_231 : decode bL_law 231 = .ok (.iconst 0, 1) := by decide +kernel
theorem dL_law_232 : decode bL_law 232 = .ok (.ireturn, 1) := by decide +kernel
theorem dL_law_233 : decode bL_law 233 = .ok (.goto 1041, 3) := by decide +kernel
theorem dL_law_236 : decode bL_law 236 = .ok (.aload_n 1, 1) := by decide +kernel
theorem dL_law_237 : decode bL_law 237 = .ok (.aload_n 0, 1) := by decide +kernel
theorem dL_law_238 : decode bL_law 238 = .ok (.iload 4, 2) := by decide +kernel
theorem dL_law_240 : decode bL_law 240 = .ok (.iconst 1, 1) := by decide +kernel
theorem dL_law_241 : decode bL_law 241 = .ok (.iadd, 1) := by decide +kernel
theorem dL_law_242 : decode bL_law 242 = .ok (.iaload, 1) := by decide +kernel
theorem dL_law_243 : decode bL_law 243 = .ok (.aload_n 0, 1) := by decide +kernel
theorem dL_law_244 : decode bL_law 244 = .ok (.iload 4, 2) := by decide +kernel
theorem dL_law_246 : decode bL_law 246 = .ok (.iconst 2, 1) := by decide +kernel
theorem dL_law_247 : decode bL_law 247 = .ok (.iadd, 1) := by decide +kernel
theorem dL_law_248 : decode bL_law 248 = .ok (.iaload, 1) := by decide +kernel
theorem dL_law_249 : decode bL_law 249 = .ok (.aload_n 3, 1) := by decide +kernel
theorem dL_law_250 : decode bL_law 250 = .ok (.invokestatic 90, 3) := by decide +kernel
theorem dL_law_253 : decode bL_law 253 = .ok (.istore 5, 2) := by decide +kernel
theorem dL_law_255 : decode bL_law 255 = .ok (.aload_n 2, 1) := by decide +kernel
theorem dL_law_256 : decode bL_law 256 = .ok (.aload_n 0, 1) := by decide +kernel
theorem dL_law_257 : decode bL_law 257 = .ok (.iload 4, 2) := by decide +kernel
theorem dL_law_259 : decode bL_law 259 = .ok (.iconst 1, 1) := by decide +kernel
theorem dL_law_260 : decode bL_law 260 = .ok (.iadd, 1) := by decide +kernel
theorem dL_law_261 : decode bL_law 261 = .ok (.iaload, 1) := by decide +kernel
theorem dL_law_262 : decode bL_law 262 = .ok (.aload_n 0, 1) := by decide +kernel
theorem dL_law_263 : decode bL_law 263 = .ok (.iload 4, 2) := by decide +kernel
theorem dL_law_265 : decode bL_law 265 = .ok (.iconst 2, 1) := by decide +kernel
theorem dL_law_266 : decode bL_law 266 = .ok (.iadd, 1) := by decide +kernel
theorem dL_law_267 : decode bL_law 267 = .ok (.iaload, 1) := by decide +kernel
theorem dL_law_268 : decode bL_law 268 = .ok (.invokevirtual 93, 3) := by decide +kernel
theorem dL_law_271 : decode bL_law 271 = .ok (.istore 6, 2) := by decide +kernel
theorem dL_law_273 : decode bL_law 273 = .ok (.aload_n 2, 1) := by decide +kernel
theorem dL_law_274 : decode bL_law 274 = .ok (.invokevirtual 83, 3) := by decide +kernel
theorem dL_law_277 : decode bL_law 277 = .ok (.iload 5, 2) := by decide +kernel
theorem dL_law_279 : decode bL_law 279 = .ok (.if_icmp .eq 5, 3) := by decide +kernel
theorem dL_law_282 : decode bL_law 282 = .ok (.iconst 0, 1) := by decide +kernel
theorem dL_law_283 : decode bL_law 283 = .ok (.ireturn, 1) := by decide +kernel
theorem dL_law_284 : decode bL_law 284 = .ok (.iload 5, 2) := by decide +kernel
theorem dL_law_286 : decode bL_law 286 = .ok (.ifCond .ne 15, 3) := by decide +kernel
theorem dL_law_289 : decode bL_law 289 = .ok (.aload_n 3, 1) := by decide +kernel
theorem dL_law_290 : decode bL_law 290 = .ok (.iconst 0, 1) := by decide +kernel
theorem dL_law_291 : decode bL_law 291 = .ok (.laload, 1) := by decide +kernel
theorem dL_law_292 : decode bL_law 292 = .ok (.iload 6, 2) := by decide +kernel
theorem dL_law_294 : decode bL_law 294 = .ok (.i2l, 1) := by decide +kernel
theorem dL_law_295 : decode bL_law 295 = .ok (.lcmp, 1) := by decide +kernel
theorem dL_law_296 : decode bL_law 296 = .ok (.ifCond .eq 5, 3) := by decide +kernel
theorem dL_law_299 : decode bL_law 299 = .ok (.iconst 0, 1) := by decide +kernel
theorem dL_law_300 : decode bL_law 300 = .ok (.ireturn, 1) := by decide +kernel
theorem dL_law_301 : decode bL_law 301 = .ok (.goto 973, 3) := by decide +kernel
theorem dL_law_304 : decode bL_law 304 = .ok (.aload_n 1, 1) := by decide +kernel
theorem dL_law_305 : decode bL_law 305 = .ok (.aload_n 0, 1) := by decide +kernel
theorem dL_law_306 : decode bL_law 306 = .ok (.iload 4, 2) := by decide +kernel
theorem dL_law_308 : decode bL_law 308 = .ok (.iconst 1, 1) := by decide +kernel
theorem dL_law_309 : decode bL_law 309 = .ok (.iadd, 1) := by decide +kernel
theorem dL_law_310 : decode bL_law 310 = .ok (.iaload, 1) := by decide +kernel
theorem dL_law_311 : decode bL_law 311 = .ok (.aload_n 3, 1) := by decide +kernel
theorem dL_law_312 : decode bL_law 312 = .ok (.invokestatic 94, 3) := by decide +kernel
theorem dL_law_315 : decode bL_law 315 = .ok (.istore 5, 2) := by decide +kernel
theorem dL_law_317 : decode bL_law 317 = .ok (.aload_n 2, 1) := by decide +kernel
theorem dL_law_318 : decode bL_law 318 = .ok (.aload_n 0, 1) := by decide +kernel
theorem dL_law_319 : decode bL_law 319 = .ok (.iload 4, 2) := by decide +kernel
theorem dL_law_321 : decode bL_law 321 = .ok (.iconst 1, 1) := by decide +kernel
theorem dL_law_322 : decode bL_law 322 = .ok (.iadd, 1) := by decide +kernel
theorem dL_law_323 : decode bL_law 323 = .ok (.iaload, 1) := by decide +kernel
theorem dL_law_324 : decode bL_law 324 = .ok (.invokevirtual 97, 3) := by decide +kernel
theorem dL_law_327 : decode bL_law 327 = .ok (.istore 6, 2) := by decide +kernel
theorem dL_law_329 : decode bL_law 329 = .ok (.aload_n 2, 1) := by decide +kernel
theorem dL_law_330 : decode bL_law 330 = .ok (.invokevirtual 83, 3) := by decide +kernel
theorem dL_law_333 : decode bL_law 333 = .ok (.iload 5, 2) := by decide +kernel
theorem dL_law_335 : decode bL_law 335 = .ok (.if_icmp .eq 5, 3) := by decide +kernel
theorem dL_law_338 : decode bL_law 338 = .ok (.iconst 0, 1) := by decide +kernel
theorem dL_law_339 : decode bL_law 339 = .ok (.ireturn, 1) := by decide +kernel
theorem dL_law_340 : decode bL_law 340 = .ok (.iload 5, 2) := by decide +kernel
theorem dL_law_342 : decode bL_law 342 = .ok (.ifCond .ne 15, 3) := by decide +kernel
theorem dL_law_345 : decode bL_law 345 = .ok (.aload_n 3, 1) := by decide +kernel
theorem dL_law_346 : decode bL_law 346 = .ok (.iconst 0, 1) := by decide +kernel
theorem dL_law_347 : decode bL_law 347 = .ok (.laload, 1) := by decide +kernel
theorem dL_law_348 : decode bL_law 348 = .ok (.iload 6, 2) := by decide +kernel
theorem dL_law_350 : decode bL_law 350 = .ok (.i2l, 1) := by decide +kernel
theorem dL_law_351 : decode bL_law 351 = .ok (.lcmp, 1) := by decide +kernel
theorem dL_law_352 : decode bL_law 352 = .ok (.ifCond .eq 5, 3) := by decide +kernel
theorem dL_law_355 : decode bL_law 355 = .ok (.iconst 0, 1) := by decide +kernel
theorem dL_law_356 : decode bL_law 356 = .ok (.ireturn, 1) := by decide +kernel
theorem dL_law_357 : decode bL_law 357 = .ok (.goto 917, 3) := by decide +kernel
theorem dL_law_360 : decode bL_law 360 = .ok (.aload_n 1, 1) := by decide +kernel
theorem dL_law_361 : decode bL_law 361 = .ok (.aload_n 0, 1) := by decide +kernel
theorem dL_law_362 : decode bL_law 362 = .ok (.iload 4, 2) := by decide +kernel
theorem dL_law_364 : decode bL_law 364 = .ok (.iconst 1, 1) := by decide +kernel
theorem dL_law_365 : decode bL_law 365 = .ok (.iadd, 1) := by decide +kernel
theorem dL_law_366 : decode bL_law 366 = .ok (.iaload, 1) := by decide +kernel
theorem dL_law_367 : decode bL_law 367 = .ok (.aload_n 0, 1) := by decide +kernel
theorem dL_law_368 : decode bL_law 368 = .ok (.iload 4, 2) := by decide +kernel
theorem dL_law_370 : decode bL_law 370 = .ok (.iconst 2, 1) := by decide +kernel
theorem dL_law_371 : decode bL_law 371 = .ok (.iadd, 1) := by decide +kernel
theorem dL_law_372 : decode bL_law 372 = .ok (.iaload, 1) := by decide +kernel
theorem dL_law_373 : decode bL_law 373 = .ok (.aload_n 0, 1) := by decide +kernel
theorem dL_law_374 : decode bL_law 374 = .ok (.iload 4, 2) := by decide +kernel
theorem dL_law_376 : decode bL_law 376 = .ok (.iconst 3, 1) := by decide +kernel
theorem dL_law_377 : decode bL_law 377 = .ok (.iadd, 1) := by decide +kernel
theorem dL_law_378 : decode bL_law 378 = .ok (.iaload, 1) := by decide +kernel
theorem dL_law_379 : decode bL_law 379 = .ok (.i2l, 1) := by decide +kernel
theorem dL_law_380 : decode bL_law 380 = .ok (.bipush 32, 2) := by decide +kernel
theorem dL_law_382 : decode bL_law 382 = .ok (.lshl, 1) := by decide +kernel
theorem dL_law_383 : decode bL_law 383 = .ok (.aload_n 0, 1) := by decide +kernel
theorem dL_law_384 : decode bL_law 384 = .ok (.iload 4, 2) := by decide +kernel
theorem dL_law_386 : decode bL_law 386 = .ok (.iconst 4, 1) := by decide +kernel
theorem dL_law_387 : decode bL_law 387 = .ok (.iadd, 1) := by decide +kernel
theorem dL_law_388 : decode bL_law 388 = .ok (.iaload, 1) := by decide +kernel
theorem dL_law_389 : decode bL_law 389 = .ok (.i2l, 1) := by decide +kernel
theorem dL_law_390 : decode bL_law 390 = .ok (.ldc2_w 98, 3) := by decide +kernel
theorem dL_law_393 : decode bL_law 393 = .ok (.land, 1) := by decide +kernel
theorem dL_law_394 : decode bL_law 394 = .ok (.lor, 1) := by decide +kernel
theorem dL_law_395 : decode bL_law 395 = .ok (.invokestatic 100, 3) := by decide +kernel
theorem dL_law_398 : decode bL_law 398 = .ok (.istore 5, 2) := by decide +kernel
theorem dL_law_400 : decode bL_law 400 = .ok (.aload_n 2, 1) := by decide +kernel
theorem dL_law_401 : decode bL_law 401 = .ok (.aload_n 0, 1) := by decide +kernel
theorem dL_law_402 : decode bL_law 402 = .ok (.iload 4, 2) := by decide +kernel
theorem dL_law_404 : decode bL_law 404 = .ok (.iconst 1, 1) := by decide +kernel
theorem dL_law_405 : decode bL_law 405 = .ok (.iadd, 1) := by decide +kernel
theorem dL_law_406 : decode bL_law 406 = .ok (.iaload, 1) := by decide +kernel
theorem dL_law_407 : decode bL_law 407 = .ok (.aload_n 0, 1) := by decide +kernel
theorem dL_law_408 : decode bL_law 408 = .ok (.iload 4, 2) := by decide +kernel
theorem dL_law_410 : decode bL_law 410 = .ok (.iconst 2, 1) := by decide +kernel
theorem dL_law_411 : decode bL_law 411 = .ok (.iadd, 1) := by decide +kernel
theorem dL_law_412 : decode bL_law 412 = .ok (.iaload, 1) := by decide +kernel
theorem dL_law_413 : decode bL_law 413 = .ok (.aload_n 0, 1) := by decide +kernel
theorem dL_law_414 : decode bL_law 414 = .ok (.iload 4, 2) := by decide +kernel
theorem dL_law_416 : decode bL_law 416 = .ok (.iconst 3, 1) := by decide +kernel
theorem dL_law_417 : decode bL_law 417 = .ok (.iadd, 1) := by decide +kernel
theorem dL_law_418 : decode bL_law 418 = .ok (.iaload, 1) := by decide +kernel
theorem dL_law_419 : decode bL_law 419 = .ok (.i2l, 1) := by decide +kernel
theorem dL_law_420 : decode bL_law 420 = .ok (.bipush 32, 2) := by decide +kernel
theorem dL_law_422 : decode bL_law 422 = .ok (.lshl, 1) := by decide +kernel
theorem dL_law_423 : decode bL_law 423 = .ok (.aload_n 0, 1) := by decide +kernel
theorem dL_law_424 : decode bL_law 424 = .ok (.iload 4, 2) := by decide +kernel
theorem dL_law_426 : decode bL_law 426 = .ok (.iconst 4, 1) := by decide +kernel
theorem dL_law_427 : decode bL_law 427 = .ok (.iadd, 1) := by decide +kernel
theorem dL_law_428 : decode bL_law 428 = .ok (.iaload, 1) := by decide +kernel
theorem dL_law_429 : decode bL_law 429 = .ok (.i2l, 1) := by decide +kernel
theorem dL_law_430 : decode bL_law 430 = .ok (.ldc2_w 98, 3) := by decide +kernel
theorem dL_law_433 : decode bL_law 433 = .ok (.land, 1) := by decide +kernel
theorem dL_law_434 : decode bL_law 434 = .ok (.lor, 1) := by decide +kernel
theorem dL_law_435 : decode bL_law 435 = .ok (.invokevirtual 103, 3) := by decide +kernel
theorem dL_law_438 : decode bL_law 438 = .ok (.aload_n 2, 1) := by decide +kernel
theorem dL_law_439 : decode bL_law 439 = .ok (.invokevirtual 83, 3) := by decide +kernel
theorem dL_law_442 : decode bL_law 442 = .ok (.iload 5, 2) := by decide +kernel
theorem dL_law_444 : decode bL_law 444 = .ok (.if_icmp .eq 5, 3) := by decide +kernel
theorem dL_law_447 : decode bL_law 447 = .ok (.iconst 0, 1) := by decide +kernel
theorem dL_law_448 : decode bL_law 448 = .ok (.ireturn, 1) := by decide +kernel
theorem dL_law_449 : decode bL_law 449 = .ok (.goto 825, 3) := by decide +kernel
theorem dL_law_452 : decode bL_law 452 = .ok (.aload_n 1, 1) := by decide +kernel
theorem dL_law_453 : decode bL_law 453 = .ok (.aload_n 0, 1) := by decide +kernel
theorem dL_law_454 : decode bL_law 454 = .ok (.iload 4, 2) := by decide +kernel
theorem dL_law_456 : decode bL_law 456 = .ok (.iconst 1, 1) := by decide +kernel
theorem dL_law_457 : decode bL_law 457 = .ok (.iadd, 1) := by decide +kernel
theorem dL_law_458 : decode bL_law 458 = .ok (.iaload, 1) := by decide +kernel
theorem dL_law_459 : decode bL_law 459 = .ok (.aload_n 0, 1) := by decide +kernel
theorem dL_law_460 : decode bL_law 460 = .ok (.iload 4, 2) := by decide +kernel
theorem dL_law_462 : decode bL_law 462 = .ok (.iconst 2, 1) := by decide +kernel
theorem dL_law_463 : decode bL_law 463 = .ok (.iadd, 1) := by decide +kernel
theorem dL_law_464 : decode bL_law 464 = .ok (.iaload, 1) := by decide +kernel
theorem dL_law_465 : decode bL_law 465 = .ok (.ifCond .eq 7, 3) := by decide +kernel
theorem dL_law_468 : decode bL_law 468 = .ok (.iconst 1, 1) := by decide +kernel
theorem dL_law_469 : decode bL_law 469 = .ok (.goto 4, 3) := by decide +kernel
theorem dL_law_472 : decode bL_law 472 = .ok (.iconst 0, 1) := by decide +kernel
theorem dL_law_473 : decode bL_law 473 = .ok (.aload_n 3, 1) := by decide +kernel
theorem dL_law_474 : decode bL_law 474 = .ok (.invokestatic 104, 3) := by decide +kernel
theorem dL_law_477 : decode bL_law 477 = .ok (.istore 5, 2) := by decide +kernel
theorem dL_law_479 : decode bL_law 479 = .ok (.aload_n 2, 1) := by decide +kernel
theorem dL_law_480 : decode bL_law 480 = .ok (.aload_n 0, 1) := by decide +kernel
theorem dL_law_481 : decode bL_law 481 = .ok (.iload 4, 2) := by decide +kernel
theorem dL_law_483 : decode bL_law 483 = .ok (.iconst 1, 1) := by decide +kernel
theorem dL_law_484 : decode bL_law 484 = .ok (.iadd, 1) := by decide +kernel
theorem dL_law_485 : decode bL_law 485 = .ok (.iaload, 1) := by decide +kernel
theorem dL_law_486 : decode bL_law 486 = .ok (.aload_n 0, 1) := by decide +kernel
theorem dL_law_487 : decode bL_law 487 = .ok (.iload 4, 2) := by decide +kernel
theorem dL_law_489 : decode bL_law 489 = .ok (.iconst 2, 1) := by decide +kernel
theorem dL_law_490 : decode bL_law 490 = .ok (.iadd, 1) := by decide +kernel
theorem dL_law_491 : decode bL_law 491 = .ok (.iaload, 1) := by decide +kernel
theorem dL_law_492 : decode bL_law 492 = .ok (.ifCond .eq 7, 3) := by decide +kernel
theorem dL_law_495 : decode bL_law 495 = .ok (.iconst 1, 1) := by decide +kernel
theorem dL_law_496 : decode bL_law 496 = .ok (.goto 4, 3) := by decide +kernel
theorem dL_law_499 : decode bL_law 499 = .ok (.iconst 0, 1) := by decide +kernel
theorem dL_law_500 : decode bL_law 500 = .ok (.invokevirtual 107, 3) := by decide +kernel
theorem dL_law_503 : decode bL_law 503 = .ok (.lstore 6, 2) := by decide +kernel
theorem dL_law_505 : decode bL_law 505 = .ok (.aload_n 2, 1) := by decide +kernel
theorem dL_law_506 : decode bL_law 506 = .ok (.invokevirtual 83, 3) := by decide +kernel
theorem dL_law_509 : decode bL_law 509 = .ok (.iload 5, 2) := by decide +kernel
theorem dL_law_511 : decode bL_law 511 = .ok (.if_icmp .eq 5, 3) := by decide +kernel
theorem dL_law_514 : decode bL_law 514 = .ok (.iconst 0, 1) := by decide +kernel
theorem dL_law_515 : decode bL_law 515 = .ok (.ireturn, 1) := by decide +kernel
theorem dL_law_516 : decode bL_law 516 = .ok (.iload 5, 2) := by decide +kernel
theorem dL_law_518 : decode bL_law 518 = .ok (.ifCond .ne 14, 3) := by decide +kernel
theorem dL_law_521 : decode bL_law 521 = .ok (.aload_n 3, 1) := by decide +kernel
theorem dL_law_522 : decode bL_law 522 = .ok (.iconst 0, 1) := by decide +kernel
theorem dL_law_523 : decode bL_law 523 = .ok (.laload, 1) := by decide +kernel
theorem dL_law_524 : decode bL_law 524 = .ok (.lload 6, 2) := by decide +kernel
theorem dL_law_526 : decode bL_law 526 = .ok (.lcmp, 1) := by decide +kernel
theorem dL_law_527 : decode bL_law 527 = .ok (.ifCond .eq 5, 3) := by decide +kernel
theorem dL_law_530 : decode bL_law 530 = .ok (.iconst 0, 1) := by decide +kernel
theorem dL_law_531 : decode bL_law 531 = .ok (.ireturn, 1) := by decide +kernel
theorem dL_law_532 : decode bL_law 532 = .ok (.goto 742, 3) := by decide +kernel
theorem dL_law_535 : decode bL_law 535 = .ok (.aload_n 1, 1) := by decide +kernel
theorem dL_law_536 : decode bL_law 536 = .ok (.aload_n 0, 1) := by decide +kernel
theorem dL_law_537 : decode bL_law 537 = .ok (.iload 4, 2) := by decide +kernel
theorem dL_law_539 : decode bL_law 539 = .ok (.iconst 1, 1) := by decide +kernel
theorem dL_law_540 : decode bL_law 540 = .ok (.iadd, 1) := by decide +kernel
theorem dL_law_541 : decode bL_law 541 = .ok (.iaload, 1) := by decide +kernel
theorem dL_law_542 : decode bL_law 542 = .ok (.aload_n 0, 1) := by decide +kernel
theorem dL_law_543 : decode bL_law 543 = .ok (.iload 4, 2) := by decide +kernel
theorem dL_law_545 : decode bL_law 545 = .ok (.iconst 2, 1) := by decide +kernel
theorem dL_law_546 : decode bL_law 546 = .ok (.iadd, 1) := by decide +kernel
theorem dL_law_547 : decode bL_law 547 = .ok (.iaload, 1) := by decide +kernel
theorem dL_law_548 : decode bL_law 548 = .ok (.ifCond .eq 7, 3) := by decide +kernel
theorem dL_law_551 : decode bL_law 551 = .ok (.iconst 1, 1) := by decide +kernel
theorem dL_law_552 : decode bL_law 552 = .ok (.goto 4, 3) := by decide +kernel
theorem dL_law_555 : decode bL_law 555 = .ok (.iconst 0, 1) := by decide +kernel
theorem dL_law_556 : decode bL_law 556 = .ok (.aload_n 0, 1) := by decide +kernel
theorem dL_law_557 : decode bL_law 557 = .ok (.iload 4, 2) := by decide +kernel
theorem dL_law_559 : decode bL_law 559 = .ok (.iconst 3, 1) := by decide +kernel
theorem dL_law_560 : decode bL_law 560 = .ok (.iadd, 1) := by decide +kernel
theorem dL_law_561 : decode bL_law 561 = .ok (.iaload, 1) := by decide +kernel
theorem dL_law_562 : decode bL_law 562 = .ok (.aload_n 0, 1) := by decide +kernel
theorem dL_law_563 : decode bL_law 563 = .ok (.iload 4, 2) := by decide +kernel
theorem dL_law_565 : decode bL_law 565 = .ok (.iconst 4, 1) := by decide +kernel
theorem dL_law_566 : decode bL_law 566 = .ok (.iadd, 1) := by decide +kernel
theorem dL_law_567 : decode bL_law 567 = .ok (.iaload, 1) := by decide +kernel
theorem dL_law_568 : decode bL_law 568 = .ok (.aload_n 0, 1) := by decide +kernel
theorem dL_law_569 : decode bL_law 569 = .ok (.iload 4, 2) := by decide +kernel
theorem dL_law_571 : decode bL_law 571 = .ok (.iconst 5, 1) := by decide +kernel
theorem dL_law_572 : decode bL_law 572 = .ok (.iadd, 1) := by decide +kernel
theorem dL_law_573 : decode bL_law 573 = .ok (.iaload, 1) := by decide +kernel
theorem dL_law_574 : decode bL_law 574 = .ok (.invokestatic 108, 3) := by decide +kernel
theorem dL_law_577 : decode bL_law 577 = .ok (.istore 5, 2) := by decide +kernel
theorem dL_law_579 : decode bL_law 579 = .ok (.aload_n 2, 1) := by decide +kernel
theorem dL_law_580 : decode bL_law 580 = .ok (.aload_n 0, 1) := by decide +kernel
theorem dL_law_581 : decode bL_law 581 = .ok (.iload 4, 2) := by decide +kernel
theorem dL_law_583 : decode bL_law 583 = .ok (.iconst 1, 1) := by decide +kernel
theorem dL_law_584 : decode bL_law 584 = .ok (.iadd, 1) := by decide +kernel
theorem dL_law_585 : decode bL_law 585 = .ok (.iaload, 1) := by decide +kernel
theorem dL_law_586 : decode bL_law 586 = .ok (.aload_n 0, 1) := by decide +kernel
theorem dL_law_587 : decode bL_law 587 = .ok (.iload 4, 2) := by decide +kernel
theorem dL_law_589 : decode bL_law 589 = .ok (.iconst 2, 1) := by decide +kernel
theorem dL_law_590 : decode bL_law 590 = .ok (.iadd, 1) := by decide +kernel
theorem dL_law_591 : decode bL_law 591 = .ok (.iaload, 1) := by decide +kernel
theorem dL_law_592 : decode bL_law 592 = .ok (.ifCond .eq 7, 3) := by decide +kernel
theorem dL_law_595 : decode bL_law 595 = .ok (.iconst 1, 1) := by decide +kernel
theorem dL_law_596 : decode bL_law 596 = .ok (.goto 4, 3) := by decide +kernel
theorem dL_law_599 : decode bL_law 599 = .ok (.iconst 0, 1) := by decide +kernel
theorem dL_law_600 : decode bL_law 600 = .ok (.aload_n 0, 1) := by decide +kernel
theorem dL_law_601 : decode bL_law 601 = .ok (.iload 4, 2) := by decide +kernel
theorem dL_law_603 : decode bL_law 603 = .ok (.iconst 3, 1) := by decide +kernel
theorem dL_law_604 : decode bL_law 604 = .ok (.iadd, 1) := by decide +kernel
theorem dL_law_605 : decode bL_law 605 = .ok (.iaload, 1) := by decide +kernel
theorem dL_law_606 : decode bL_law 606 = .ok (.aload_n 0, 1) := by decide +kernel
theorem dL_law_607 : decode bL_law 607 = .ok (.iload 4, 2) := by decide +kernel
theorem dL_law_609 : decode bL_law 609 = .ok (.iconst 4, 1) := by decide +kernel
theorem dL_law_610 : decode bL_law 610 = .ok (.iadd, 1) := by decide +kernel
theorem dL_law_611 : decode bL_law 611 = .ok (.iaload, 1) := by decide +kernel
theorem dL_law_612 : decode bL_law 612 = .ok (.aload_n 0, 1) := by decide +kernel
theorem dL_law_613 : decode bL_law 613 = .ok (.iload 4, 2) := by decide +kernel
theorem dL_law_615 : decode bL_law 615 = .ok (.iconst 5, 1) := by decide +kernel
theorem dL_law_616 : decode bL_law 616 = .ok (.iadd, 1) := by decide +kernel
theorem dL_law_617 : decode bL_law 617 = .ok (.iaload, 1) := by decide +kernel
theorem dL_law_618 : decode bL_law 618 = .ok (.invokevirtual 111, 3) := by decide +kernel
theorem dL_law_621 : decode bL_law 621 = .ok (.aload_n 2, 1) := by decide +kernel
theorem dL_law_622 : decode bL_law 622 = .ok (.invokevirtual 83, 3) := by decide +kernel
theorem dL_law_625 : decode bL_law 625 = .ok (.iload 5, 2) := by decide +kernel
theorem dL_law_627 : decode bL_law 627 = .ok (.if_icmp .eq 5, 3) := by decide +kernel
theorem dL_law_630 : decode bL_law 630 = .ok (.iconst 0, 1) := by decide +kernel
theorem dL_law_631 : decode bL_law 631 = .ok (.ireturn, 1) := by decide +kernel
theorem dL_law_632 : decode bL_law 632 = .ok (.goto 642, 3) := by decide +kernel
theorem dL_law_635 : decode bL_law 635 = .ok (.aload_n 1, 1) := by decide +kernel
theorem dL_law_636 : decode bL_law 636 = .ok (.aload_n 0, 1) := by decide +kernel
theorem dL_law_637 : decode bL_law 637 = .ok (.iload 4, 2) := by decide +kernel
theorem dL_law_639 : decode bL_law 639 = .ok (.iconst 1, 1) := by decide +kernel
theorem dL_law_640 : decode bL_law 640 = .ok (.iadd, 1) := by decide +kernel
theorem dL_law_641 : decode bL_law 641 = .ok (.iaload, 1) := by decide +kernel
theorem dL_law_642 : decode bL_law 642 = .ok (.aload_n 0, 1) := by decide +kernel
theorem dL_law_643 : decode bL_law 643 = .ok (.iload 4, 2) := by decide +kernel
theorem dL_law_645 : decode bL_law 645 = .ok (.iconst 2, 1) := by decide +kernel
theorem dL_law_646 : decode bL_law 646 = .ok (.iadd, 1) := by decide +kernel
theorem dL_law_647 : decode bL_law 647 = .ok (.iaload, 1) := by decide +kernel
theorem dL_law_648 : decode bL_law 648 = .ok (.aload_n 0, 1) := by decide +kernel
theorem dL_law_649 : decode bL_law 649 = .ok (.iload 4, 2) := by decide +kernel
theorem dL_law_651 : decode bL_law 651 = .ok (.iconst 3, 1) := by decide +kernel
theorem dL_law_652 : decode bL_law 652 = .ok (.iadd, 1) := by decide +kernel
theorem dL_law_653 : decode bL_law 653 = .ok (.iaload, 1) := by decide +kernel
theorem dL_law_654 : decode bL_law 654 = .ok (.invokestatic 112, 3) := by decide +kernel
theorem dL_law_657 : decode bL_law 657 = .ok (.istore 5, 2) := by decide +kernel
theorem dL_law_659 : decode bL_law 659 = .ok (.aload_n 2, 1) := by decide +kernel
theorem dL_law_660 : decode bL_law 660 = .ok (.aload_n 0, 1) := by decide +kernel
theorem dL_law_661 : decode bL_law 661 = .ok (.iload 4, 2) := by decide +kernel
theorem dL_law_663 : decode bL_law 663 = .ok (.iconst 1, 1) := by decide +kernel
theorem dL_law_664 : decode bL_law 664 = .ok (.iadd, 1) := by decide +kernel
theorem dL_law_665 : decode bL_law 665 = .ok (.iaload, 1) := by decide +kernel
theorem dL_law_666 : decode bL_law 666 = .ok (.aload_n 0, 1) := by decide +kernel
theorem dL_law_667 : decode bL_law 667 = .ok (.iload 4, 2) := by decide +kernel
theorem dL_law_669 : decode bL_law 669 = .ok (.iconst 2, 1) := by decide +kernel
theorem dL_law_670 : decode bL_law 670 = .ok (.iadd, 1) := by decide +kernel
theorem dL_law_671 : decode bL_law 671 = .ok (.iaload, 1) := by decide +kernel
theorem dL_law_672 : decode bL_law 672 = .ok (.aload_n 0, 1) := by decide +kernel
theorem dL_law_673 : decode bL_law 673 = .ok (.iload 4, 2) := by decide +kernel
