/-! the law: its own walk -/
abbrev mL_law : MethodName × ByteArray × Nat × Option FieldType × List (Nat × Nat × Nat × Nat) := (x, code, maxLocals, ret, [])
theorem dL_law_0 : decode code 0 = .ok (.new 8, 3) := by decide +kernel
theorem dL_law_3 : decode code 3 = .ok (.dup, 1) := by decide +kernel
theorem dL_law_4 : decode code 4 = .ok (.invokespecial 56, 3) := by decide +kernel
theorem dL_law_7 : decode code 7 = .ok (.astore_n 1, 1) := by decide +kernel
theorem dL_law_8 : decode code 8 = .ok (.new 57, 3) := by decide +kernel
theorem dL_law_11 : decode code 11 = .ok (.dup, 1) := by decide +kernel
theorem dL_law_12 : decode code 12 = .ok (.invokespecial 59, 3) := by decide +kernel
theorem dL_law_15 : decode code 15 = .ok (.astore_n 2, 1) := by decide +kernel
theorem dL_law_16 : decode code 16 = .ok (.iconst 1, 1) := by decide +kernel
theorem dL_law_17 : decode code 17 = .ok (.newarray .long, 2) := by decide +kernel
theorem dL_law_19 : decode code 19 = .ok (.astore_n 3, 1) := by decide +kernel
theorem dL_law_20 : decode code 20 = .ok (.iconst 0, 1) := by decide +kernel
theorem dL_law_21 : decode code 21 = .ok (.istore 4, 2) := by decide +kernel
theorem dL_law_23 : decode code 23 = .ok (.iload 4, 2) := by decide +kernel
theorem dL_law_25 : decode code 25 = .ok (.aload_n 0, 1) := by decide +kernel
theorem dL_law_26 : decode code 26 = .ok (.arraylength, 1) := by decide +kernel
theorem dL_law_27 : decode code 27 = .ok (.bipush 7, 2) := by decide +kernel
theorem dL_law_29 : decode code 29 = .ok (.isub, 1) := by decide +kernel
theorem dL_law_30 : decode code 30 = .ok (.if_icmp .gt 808, 3) := by decide +kernel
theorem dL_law_33 : decode code 33 = .ok (.aload_n 0, 1) := by decide +kernel
theorem dL_law_34 : decode code 34 = .ok (.iload 4, 2) := by decide +kernel
theorem dL_law_36 : decode code 36 = .ok (.iaload, 1) := by decide +kernel
theorem dL_law_37 : decode code 37 = .ok (.bipush 15, 2) := by decide +kernel
theorem dL_law_39 : decode code 39 = .ok (.iand, 1) := by decide +kernel
theorem dL_law_40 : decode code 40 = .ok (.tableswitch 792 0 12 #[68, 166, 230, 322, 358, 371, 384, 452, 500, 556, 624, 680, 724], 68) := by decide +kernel
theorem dL_law_108 : decode code 108 = .ok (.aload_n 1, 1) := by decide +kernel
theorem dL_law_109 : decode code 109 = .ok (.aload_n 0, 1) := by decide +kernel
theorem dL_law_110 : decode code 110 = .ok (.iload 4, 2) := by decide +kernel
theorem dL_law_112 : decode code 112 = .ok (.iconst 1, 1) := by decide +kernel
theorem dL_law_113 : decode code 113 = .ok (.iadd, 1) := by decide +kernel
theorem dL_law_114 : decode code 114 = .ok (.iaload, 1) := by decide +kernel
theorem dL_law_115 : decode code 115 = .ok (.aload_n 0, 1) := by decide +kernel
theorem dL_law_116 : decode code 116 = .ok (.iload 4, 2) := by decide +kernel
theorem dL_law_118 : decode code 118 = .ok (.iconst 2, 1) := by decide +kernel
theorem dL_law_119 : decode code 119 = .ok (.iadd, 1) := by decide +kernel
theorem dL_law_120 : decode code 120 = .ok (.iaload, 1) := by decide +kernel
theorem dL_law_121 : decode code 121 = .ok (.aload_n 0, 1) := by decide +kernel
theorem dL_law_122 : decode code 122 = .ok (.iload 4, 2) := by decide +kernel
theorem dL_law_124 : decode code 124 = .ok (.iconst 3, 1) := by decide +kernel
theorem dL_law_125 : decode code 125 = .ok (.iadd, 1) := by decide +kernel
theorem dL_law_126 : decode code 126 = .ok (.iaload, 1) := by decide +kernel
theorem dL_law_127 : decode code 127 = .ok (.aload_n 0, 1) := by decide +kernel
theorem dL_law_128 : decode code 128 = .ok (.iload 4, 2) := by decide +kernel
theorem dL_law_130 : decode code 130 = .ok (.iconst 4, 1) := by decide +kernel
theorem dL_law_131 : decode code 131 = .ok (.iadd, 1) := by decide +kernel
theorem dL_law_132 : decode code 132 = .ok (.iaload, 1) := by decide +kernel
theorem dL_law_133 : decode code 133 = .ok (.aload_n 0, 1) := by decide +kernel
theorem dL_law_134 : decode code 134 = .ok (.iload 4, 2) := by decide +kernel
theorem dL_law_136 : decode code 136 = .ok (.iconst 5, 1) := by decide +kernel
theorem dL_law_137 : decode code 137 = .ok (.iadd, 1) := by decide +kernel
theorem dL_law_138 : decode code 138 = .ok (.iaload, 1) := by decide +kernel
theorem dL_law_139 : decode code 139 = .ok (.aload_n 0, 1) := by decide +kernel
theorem dL_law_140 : decode code 140 = .ok (.iload 4, 2) := by decide +kernel
theorem dL_law_142 : decode code 142 = .ok (.bipush 6, 2) := by decide +kernel
theorem dL_law_144 : decode code 144 = .ok (.iadd, 1) := by decide +kernel
theorem dL_law_145 : decode code 145 = .ok (.iaload, 1) := by decide +kernel
theorem dL_law_146 : decode code 146 = .ok (.invokestatic 60, 3) := by decide +kernel
theorem dL_law_149 : decode code 149 = .ok (.istore 5, 2) := by decide +kernel
theorem dL_law_151 : decode code 151 = .ok (.aload_n 2, 1) := by decide +kernel
theorem dL_law_152 : decode code 152 = .ok (.aload_n 0, 1) := by decide +kernel
theorem dL_law_153 : decode code 153 = .ok (.iload 4, 2) := by decide +kernel
theorem dL_law_155 : decode code 155 = .ok (.iconst 1, 1) := by decide +kernel
theorem dL_law_156 : decode code 156 = .ok (.iadd, 1) := by decide +kernel
theorem dL_law_157 : decode code 157 = .ok (.iaload, 1) := by decide +kernel
theorem dL_law_158 : decode code 158 = .ok (.aload_n 0, 1) := by decide +kernel
theorem dL_law_159 : decode code 159 = .ok (.iload 4, 2) := by decide +kernel
theorem dL_law_161 : decode code 161 = .ok (.iconst 2, 1) := by decide +kernel
theorem dL_law_162 : decode code 162 = .ok (.iadd, 1) := by decide +kernel
theorem dL_law_163 : decode code 163 = .ok (.iaload, 1) := by decide +kernel
theorem dL_law_164 : decode code 164 = .ok (.aload_n 0, 1) := by decide +kernel
theorem dL_law_165 : decode code 165 = .ok (.iload 4, 2) := by decide +kernel
theorem dL_law_167 : decode code 167 = .ok (.iconst 3, 1) := by decide +kernel
theorem dL_law_168 : decode code 168 = .ok (.iadd, 1) := by decide +kernel
theorem dL_law_169 : decode code 169 = .ok (.iaload, 1) := by decide +kernel
theorem dL_law_170 : decode code 170 = .ok (.aload_n 0, 1) := by decide +kernel
theorem dL_law_171 : decode code 171 = .ok (.iload 4, 2) := by decide +kernel
theorem dL_law_173 : decode code 173 = .ok (.iconst 4, 1) := by decide +kernel
theorem dL_law_174 : decode code 174 = .ok (.iadd, 1) := by decide +kernel
theorem dL_law_175 : decode code 175 = .ok (.iaload, 1) := by decide +kernel
theorem dL_law_176 : decode code 176 = .ok (.aload_n 0, 1) := by decide +kernel
theorem dL_law_177 : decode code 177 = .ok (.iload 4, 2) := by decide +kernel
theorem dL_law_179 : decode code 179 = .ok (.iconst 5, 1) := by decide +kernel
theorem dL_law_180 : decode code 180 = .ok (.iadd, 1) := by decide +kernel
theorem dL_law_181 : decode code 181 = .ok (.iaload, 1) := by decide +kernel
theorem dL_law_182 : decode code 182 = .ok (.aload_n 0, 1) := by decide +kernel
theorem dL_law_183 : decode code 183 = .ok (.iload 4, 2) := by decide +kernel
theorem dL_law_185 : decode code 185 = .ok (.bipush 6, 2) := by decide +kernel
theorem dL_law_187 : decode code 187 = .ok (.iadd, 1) := by decide +kernel
theorem dL_law_188 : decode code 188 = .ok (.iaload, 1) := by decide +kernel
theorem dL_law_189 : decode code 189 = .ok (.invokevirtual 65, 3) := by decide +kernel
theorem dL_law_192 : decode code 192 = .ok (.aload_n 2, 1) := by decide +kernel
theorem dL_law_193 : decode code 193 = .ok (.invokevirtual 66, 3) := by decide +kernel
theorem dL_law_196 : decode code 196 = .ok (.iload 5, 2) := by decide +kernel
theorem dL_law_198 : decode code 198 = .ok (.if_icmp .eq 5, 3) := by decide +kernel
theorem dL_law_201 : decode code 201 = .ok (.iconst 0, 1) := by decide +kernel
theorem dL_law_202 : decode code 202 = .ok (.ireturn, 1) := by decide +kernel
theorem dL_law_203 : decode code 203 = .ok (.goto 629, 3) := by decide +kernel
theorem dL_law_206 : decode code 206 = .ok (.aload_n 1, 1) := by decide +kernel
theorem dL_law_207 : decode code 207 = .ok (.aload_n 0, 1) := by decide +kernel
theorem dL_law_208 : decode code 208 = .ok (.iload 4, 2) := by decide +kernel
theorem dL_law_210 : decode code 210 = .ok (.iconst 1, 1) := by decide +kernel
theorem dL_law_211 : decode code 211 = .ok (.iadd, 1) := by decide +kernel
theorem dL_law_212 : decode code 212 = .ok (.iaload, 1) := by decide +kernel
theorem dL_law_213 : decode code 213 = .ok (.aload_n 0, 1) := by decide +kernel
theorem dL_law_214 : decode code 214 = .ok (.iload 4, 2) := by decide +kernel
theorem dL_law_216 : decode code 216 = .ok (.iconst 2, 1) := by decide +kernel
theorem dL_law_217 : decode code 217 = .ok (.iadd, 1) := by decide +kernel
theorem dL_law_218 : decode code 218 = .ok (.iaload, 1) := by decide +kernel
theorem dL_law_219 : decode code 219 = .ok (.ifCond .eq 7, 3) := by decide +kernel
theorem dL_law_222 : decode code 222 = .ok (.iconst 1, 1) := by decide +kernel
theorem dL_law_223 : decode code 223 = .ok (.goto 4, 3) := by decide +kernel
theorem dL_law_226 : decode code 226 = .ok (.iconst 0, 1) := by decide +kernel
theorem dL_law_227 : decode code 227 = .ok (.invokestatic 69, 3) := by decide +kernel
theorem dL_law_230 : decode code 230 = .ok (.istore 5, 2) := by decide +kernel
theorem dL_law_232 : decode code 232 = .ok (.aload_n 2, 1) := by decide +kernel
theorem dL_law_233 : decode code 233 = .ok (.aload_n 0, 1) := by decide +kernel
theorem dL_law_234 : decode code 234 = .ok (.iload 4, 2) := by decide +kernel
theorem dL_law_236 : decode code 236 = .ok (.iconst 1, 1) := by decide +kernel
theorem dL_law_237 : decode code 237 = .ok (.iadd, 1) := by decide +kernel
theorem dL_law_238 : decode code 238 = .ok (.iaload, 1) := by decide +kernel
theorem dL_law_239 : decode code 239 = .ok (.aload_n 0, 1) := by decide +kernel
theorem dL_law_240 : decode code 240 = .ok (.iload 4, 2) := by decide +kernel
theorem dL_law_242 : decode code 242 = .ok (.iconst 2, 1) := by decide +kernel
theorem dL_law_243 : decode code 243 = .ok (.iadd, 1) := by decide +kernel
theorem dL_law_244 : decode code 244 = .ok (.iaload, 1) := by decide +kernel
theorem dL_law_245 : decode code 245 = .ok (.ifCond .eq 7, 3) := by decide +kernel
theorem dL_law_248 : decode code 248 = .ok (.iconst 1, 1) := by decide +kernel
theorem dL_law_249 : decode code 249 = .ok (.goto 4, 3) := by decide +kernel
theorem dL_law_252 : decode code 252 = .ok (.iconst 0, 1) := by decide +kernel
theorem dL_law_253 : decode code 253 = .ok (.invokevirtual 72, 3) := by decide +kernel
theorem dL_law_256 : decode code 256 = .ok (.aload_n 2, 1) := by decide +kernel
theorem dL_law_257 : decode code 257 = .ok (.invokevirtual 66, 3) := by decide +kernel
theorem dL_law_260 : decode code 260 = .ok (.iload 5, 2) := by decide +kernel
theorem dL_law_262 : decode code 262 = .ok (.if_icmp .eq 5, 3) := by decide +kernel
theorem dL_law_265 : decode code 265 = .ok (.iconst 0, 1) := by decide +kernel
theorem dL_law_266 : decode code 266 = .ok (.ireturn, 1) := by decide +kernel
theorem dL_law_267 : decode code 267 = .ok (.goto 565, 3) := by decide +kernel
theorem dL_law_270 : decode code 270 = .ok (.aload_n 1, 1) := by decide +kernel
theorem dL_law_271 : decode code 271 = .ok (.aload_n 0, 1) := by decide +kernel
theorem dL_law_272 : decode code 272 = .ok (.iload 4, 2) := by decide +kernel
theorem dL_law_274 : decode code 274 = .ok (.iconst 1, 1) := by decide +kernel
theorem dL_law_275 : decode code 275 = .ok (.iadd, 1) := by decide +kernel
theorem dL_law_276 : decode code 276 = .ok (.iaload, 1) := by decide +kernel
theorem dL_law_277 : decode code 277 = .ok (.aload_n 0, 1) := by decide +kernel
theorem dL_law_278 : decode code 278 = .ok (.iload 4, 2) := by decide +kernel
theorem dL_law_280 : decode code 280 = .ok (.iconst 2, 1) := by decide +kernel
theorem dL_law_281 : decode code 281 = .ok (.iadd, 1) := by decide +kernel
theorem dL_law_282 : decode code 282 = .ok (.iaload, 1) := by decide +kernel
theorem dL_law_283 : decode code 283 = .ok (.aload_n 0, 1) := by decide +kernel
theorem dL_law_284 : decode code 284 = .ok (.iload 4, 2) := by decide +kernel
theorem dL_law_286 : decode code 286 = .ok (.iconst 3, 1) := by decide +kernel
theorem dL_law_287 : decode code 287 = .ok (.iadd, 1) := by decide +kernel
theorem dL_law_288 : decode code 288 = .ok (.iaload, 1) := by decide +kernel
theorem dL_law_289 : decode code 289 = .ok (.aload_n 0, 1) := by decide +kernel
theorem dL_law_290 : decode code 290 = .ok (.iload 4, 2) := by decide +kernel
theorem dL_law_292 : decode code 292 = .ok (.iconst 4, 1) := by decide +kernel
theorem dL_law_293 : decode code 293 = .ok (.iadd, 1) := by decide +kernel
theorem dL_law_294 : decode code 294 = .ok (.iaload, 1) := by decide +kernel
theorem dL_law_295 : decode code 295 = .ok (.aload_n 3, 1) := by decide +kernel
theorem dL_law_296 : decode code 296 = .ok (.invokestatic 73, 3) := by decide +kernel
theorem dL_law_299 : decode code 299 = .ok (.istore 5, 2) := by decide +kernel
theorem dL_law_301 : decode code 301 = .ok (.aload_n 2, 1) := by decide +kernel
theorem dL_law_302 : decode code 302 = .ok (.aload_n 0, 1) := by decide +kernel
theorem dL_law_303 : decode code 303 = .ok (.iload 4, 2) := by decide +kernel
theorem dL_law_305 : decode code 305 = .ok (.iconst 1, 1) := by decide +kernel
theorem dL_law_306 : decode code 306 = .ok (.iadd, 1) := by decide +kernel
theorem dL_law_307 : decode code 307 = .ok (.iaload, 1) := by decide +kernel
theorem dL_law_308 : decode code 308 = .ok (.aload_n 0, 1) := by decide +kernel
theorem dL_law_309 : decode code 309 = .ok (.iload 4, 2) := by decide +kernel
theorem dL_law_311 : decode code 311 = .ok (.iconst 2, 1) := by decide +kernel
theorem dL_law_312 : decode code 312 = .ok (.iadd, 1) := by decide +kernel
theorem dL_law_313 : decode code 313 = .ok (.iaload, 1) := by decide +kernel
theorem dL_law_314 : decode code 314 = .ok (.aload_n 0, 1) := by decide +kernel
theorem dL_law_315 : decode code 315 = .ok (.iload 4, 2) := by decide +kernel
theorem dL_law_317 : decode code 317 = .ok (.iconst 3, 1) := by decide +kernel
theorem dL_law_318 : decode code 318 = .ok (.iadd, 1) := by decide +kernel
theorem dL_law_319 : decode code 319 = .ok (.iaload, 1) := by decide +kernel
theorem dL_law_320 : decode code 320 = .ok (.aload_n 0, 1) := by decide +kernel
theorem dL_law_321 : decode code 321 = .ok (.iload 4, 2) := by decide +kernel
theorem dL_law_323 : decode code 323 = .ok (.iconst 4, 1) := by decide +kernel
theorem dL_law_324 : decode code 324 = .ok (.iadd, 1) := by decide +kernel
theorem dL_law_325 : decode code 325 = .ok (.iaload, 1) := by decide +kernel
theorem dL_law_326 : decode code 326 = .ok (.invokevirtual 76, 3) := by decide +kernel
theorem dL_law_329 : decode code 329 = .ok (.istore 6, 2) := by decide +kernel
theorem dL_law_331 : decode code 331 = .ok (.aload_n 2, 1) := by decide +kernel
theorem dL_law_332 : decode code 332 = .ok (.invokevirtual 66, 3) := by decide +kernel
theorem dL_law_335 : decode code 335 = .ok (.iload 5, 2) := by decide +kernel
theorem dL_law_337 : decode code 337 = .ok (.if_icmp .eq 5, 3) := by decide +kernel
theorem dL_law_340 : decode code 340 = .ok (.iconst 0, 1) := by decide +kernel
theorem dL_law_341 : decode code 341 = .ok (.ireturn, 1) := by decide +kernel
theorem dL_law_342 : decode code 342 = .ok (.iload 5, 2) := by decide +kernel
theorem dL_law_344 : decode code 344 = .ok (.ifCond .ne 15, 3) := by decide +kernel
theorem dL_law_347 : decode code 347 = .ok (.aload_n 3, 1) := by decide +kernel
theorem dL_law_348 : decode code 348 = .ok (.iconst 0, 1) := by decide +kernel
theorem dL_law_349 : decode code 349 = .ok (.laload, 1) := by decide +kernel
theorem dL_law_350 : decode code 350 = .ok (.iload 6, 2) := by decide +kernel
theorem dL_law_352 : decode code 352 = .ok (.i2l, 1) := by decide +kernel
theorem dL_law_353 : decode code 353 = .ok (.lcmp, 1) := by decide +kernel
theorem dL_law_354 : decode code 354 = .ok (.ifCond .eq 5, 3) := by decide +kernel
theorem dL_law_357 : decode code 357 = .ok (.iconst 0, 1) := by decide +kernel
theorem dL_law_358 : decode code 358 = .ok (.ireturn, 1) := by decide +kernel
theorem dL_law_359 : decode code 359 = .ok (.goto 473, 3) := by decide +kernel
theorem dL_law_362 : decode code 362 = .ok (.aload_n 1, 1) := by decide +kernel
theorem dL_law_363 : decode code 363 = .ok (.aload_n 0, 1) := by decide +kernel
theorem dL_law_364 : decode code 364 = .ok (.iload 4, 2) := by decide +kernel
theorem dL_law_366 : decode code 366 = .ok (.iconst 1, 1) := by decide +kernel
theorem dL_law_367 : decode code 367 = .ok (.iadd, 1) := by decide +kernel
theorem dL_law_368 : decode code 368 = .ok (.iaload, 1) := by decide +kernel
theorem dL_law_369 : decode code 369 = .ok (.invokestatic 77, 3) := by decide +kernel
theorem dL_law_372 : decode code 372 = .ok (.istore 5, 2) := by decide +kernel
theorem dL_law_374 : decode code 374 = .ok (.aload_n 2, 1) := by decide +kernel
theorem dL_law_375 : decode code 375 = .ok (.aload_n 0, 1) := by decide +kernel
theorem dL_law_376 : decode code 376 = .ok (.iload 4, 2) := by decide +kernel
theorem dL_law_378 : decode code 378 = .ok (.iconst 1, 1) := by decide +kernel
theorem dL_law_379 : decode code 379 = .ok (.iadd, 1) := by decide +kernel
theorem dL_law_380 : decode code 380 = .ok (.iaload, 1) := by decide +kernel
theorem dL_law_381 : decode code 381 = .ok (.invokevirtual 80, 3) := by decide +kernel
theorem dL_law_384 : decode code 384 = .ok (.aload_n 2, 1) := by decide +kernel
theorem dL_law_385 : decode code 385 = .ok (.invokevirtual 66, 3) := by decide +kernel
theorem dL_law_388 : decode code 388 = .ok (.iload 5, 2) := by decide +kernel
theorem dL_law_390 : decode code 390 = .ok (.if_icmp .eq 5, 3) := by decide +kernel
theorem dL_law_393 : decode code 393 = .ok (.iconst 0, 1) := by decide +kernel
theorem dL_law_394 : decode code 394 = .ok (.ireturn, 1) := by decide +kernel
theorem dL_law_395 : decode code 395 = .ok (.goto 437, 3) := by decide +kernel
theorem dL_law_398 : decode code 398 = .ok (.aload_n 1, 1) := by decide +kernel
theorem dL_law_399 : decode code 399 = .ok (.invokevirtual 81, 3) := by decide +kernel
theorem dL_law_402 : decode code 402 = .ok (.aload_n 2, 1) := by decide +kernel
theorem dL_law_403 : decode code 403 = .ok (.invokevirtual 84, 3) := by decide +kernel
theorem dL_law_406 : decode code 406 = .ok (.if_icmp .eq 426, 3) := by decide +kernel
theorem dL_law_409 : decode code 409 = .ok (.iconst 0, 1) := by decide +kernel
theorem dL_law_410 : decode code 410 = .ok (.ireturn, 1) := by decide +kernel
theorem dL_law_411 : decode code 411 = .ok (.aload_n 1, 1) := by decide +kernel
theorem dL_law_412 : decode code 412 = .ok (.invokevirtual 85, 3) := by decide +kernel
theorem dL_law_415 : decode code 415 = .ok (.aload_n 2, 1) := by decide +kernel
theorem dL_law_416 : decode code 416 = .ok (.invokevirtual 88, 3) := by decide +kernel
theorem dL_law_419 : decode code 419 = .ok (.if_icmp .eq 413, 3) := by decide +kernel
theorem dL_law_422 : decode code 422 = .ok (.iconst 0, 1) := by decide +kernel
theorem dL_law_423 : decode code 423 = .ok (.ireturn, 1) := by decide +kernel
theorem dL_law_424 : decode code 424 = .ok (.aload_n 1, 1) := by decide +kernel
theorem dL_law_425 : decode code 425 = .ok (.aload_n 0, 1) := by decide +kernel
theorem dL_law_426 : decode code 426 = .ok (.iload 4, 2) := by decide +kernel
theorem dL_law_428 : decode code 428 = .ok (.iconst 1, 1) := by decide +kernel
theorem dL_law_429 : decode code 429 = .ok (.iadd, 1) := by decide +kernel
theorem dL_law_430 : decode code 430 = .ok (.iaload, 1) := by decide +kernel
theorem dL_law_431 : decode code 431 = .ok (.aload_n 0, 1) := by decide +kernel
theorem dL_law_432 : decode code 432 = .ok (.iload 4, 2) := by decide +kernel
theorem dL_law_434 : decode code 434 = .ok (.iconst 2, 1) := by decide +kernel
theorem dL_law_435 : decode code 435 = .ok (.iadd, 1) := by decide +kernel
theorem dL_law_436 : decode code 436 = .ok (.iaload, 1) := by decide +kernel
theorem dL_law_437 : decode code 437 = .ok (.aload_n 3, 1) := by decide +kernel
theorem dL_law_438 : decode code 438 = .ok (.invokestatic 89, 3) := by decide +kernel
theorem dL_law_441 : decode code 441 = .ok (.istore 5, 2) := by decide +kernel
theorem dL_law_443 : decode code 443 = .ok (.aload_n 2, 1) := by decide +kernel
theorem dL_law_444 : decode code 444 = .ok (.aload_n 0, 1) := by decide +kernel
theorem dL_law_445 : decode code 445 = .ok (.iload 4, 2) := by decide +kernel
theorem dL_law_447 : decode code 447 = .ok (.iconst 1, 1) := by decide +kernel
theorem dL_law_448 : decode code 448 = .ok (.iadd, 1) := by decide +kernel
theorem dL_law_449 : decode code 449 = .ok (.iaload, 1) := by decide +kernel
theorem dL_law_450 : decode code 450 = .ok (.aload_n 0, 1) := by decide +kernel
theorem dL_law_451 : decode code 451 = .ok (.iload 4, 2) := by decide +kernel
theorem dL_law_453 : decode code 453 = .ok (.iconst 2, 1) := by decide +kernel
theorem dL_law_454 : decode code 454 = .ok (.iadd, 1) := by decide +kernel
theorem dL_law_455 : decode code 455 = .ok (.iaload, 1) := by decide +kernel
theorem dL_law_456 : decode code 456 = .ok (.invokevirtual 92, 3) := by decide +kernel
theorem dL_law_459 : decode code 459 = .ok (.istore 6, 2) := by decide +kernel
theorem dL_law_461 : decode code 461 = .ok (.aload_n 2, 1) := by decide +kernel
theorem dL_law_462 : decode code 462 = .ok (.invokevirtual 66, 3) := by decide +kernel
theorem dL_law_465 : decode code 465 = .ok (.iload 5, 2) := by decide +kernel
theorem dL_law_467 : decode code 467 = .ok (.if_icmp .eq 5, 3) := by decide +kernel
theorem dL_law_470 : decode code 470 = .ok (.iconst 0, 1) := by decide +kernel
theorem dL_law_471 : decode code 471 = .ok (.ireturn, 1) := by decide +kernel
theorem dL_law_472 : decode code 472 = .ok (.iload 5, 2) := by decide +kernel
theorem dL_law_474 : decode code 474 = .ok (.ifCond .ne 15, 3) := by decide +kernel
theorem dL_law_477 : decode code 477 = .ok (.aload_n 3, 1) := by decide +kernel
theorem dL_law_478 : decode code 478 = .ok (.iconst 0, 1) := by decide +kernel
theorem dL_law_479 : decode code 479 = .ok (.laload, 1) := by decide +kernel
theorem dL_law_480 : decode code 480 = .ok (.iload 6, 2) := by decide +kernel
theorem dL_law_482 : decode code 482 = .ok (.i2l, 1) := by decide +kernel
theorem dL_law_483 : decode code 483 = .ok (.lcmp, 1) := by decide +kernel
theorem dL_law_484 : decode code 484 = .ok (.ifCond .eq 5, 3) := by decide +kernel
theorem dL_law_487 : decode code 487 = .ok (.iconst 0, 1) := by decide +kernel
theorem dL_law_488 : decode code 488 = .ok (.ireturn, 1) := by decide +kernel
theorem dL_law_489 : decode code 489 = .ok (.goto 343, 3) := by decide +kernel
theorem dL_law_492 : decode code 492 = .ok (.aload_n 1, 1) := by decide +kernel
theorem dL_law_493 : decode code 493 = .ok (.aload_n 0, 1) := by decide +kernel
theorem dL_law_494 : decode code 494 = .ok (.iload 4, 2) := by decide +kernel
theorem dL_law_496 : decode code 496 = .ok (.iconst 1, 1) := by decide +kernel
theorem dL_law_497 : decode code 497 = .ok (.iadd, 1) := by decide +kernel
theorem dL_law_498 : decode code 498 = .ok (.iaload, 1) := by decide +kernel
theorem dL_law_499 : decode code 499 = .ok (.aload_n 0, 1) := by decide +kernel
theorem dL_law_500 : decode code 500 = .ok (.iload 4, 2) := by decide +kernel
theorem dL_law_502 : decode code 502 = .ok (.iconst 2, 1) := by decide +kernel
theorem dL_law_503 : decode code 503 = .ok (.iadd, 1) := by decide +kernel
theorem dL_law_504 : decode code 504 = .ok (.iaload, 1) := by decide +kernel
theorem dL_law_505 : decode code 505 = .ok (.invokestatic 93, 3) := by decide +kernel
theorem dL_law_508 : decode code 508 = .ok (.istore 5, 2) := by decide +kernel
theorem dL_law_510 : decode code 510 = .ok (.aload_n 2, 1) := by decide +kernel
theorem dL_law_511 : decode code 511 = .ok (.aload_n 0, 1) := by decide +kernel
theorem dL_law_512 : decode code 512 = .ok (.iload 4, 2) := by decide +kernel
theorem dL_law_514 : decode code 514 = .ok (.iconst 1, 1) := by decide +kernel
theorem dL_law_515 : decode code 515 = .ok (.iadd, 1) := by decide +kernel
theorem dL_law_516 : decode code 516 = .ok (.iaload, 1) := by decide +kernel
theorem dL_law_517 : decode code 517 = .ok (.aload_n 0, 1) := by decide +kernel
theorem dL_law_518 : decode code 518 = .ok (.iload 4, 2) := by decide +kernel
theorem dL_law_520 : decode code 520 = .ok (.iconst 2, 1) := by decide +kernel
theorem dL_law_521 : decode code 521 = .ok (.iadd, 1) := by decide +kernel
theorem dL_law_522 : decode code 522 = .ok (.iaload, 1) := by decide +kernel
theorem dL_law_523 : decode code 523 = .ok (.invokevirtual 96, 3) := by decide +kernel
theorem dL_law_526 : decode code 526 = .ok (.aload_n 2, 1) := by decide +kernel
theorem dL_law_527 : decode code 527 = .ok (.invokevirtual 66, 3) := by decide +kernel
theorem dL_law_530 : decode code 530 = .ok (.iload 5, 2) := by decide +kernel
theorem dL_law_532 : decode code 532 = .ok (.if_icmp .eq 5, 3) := by decide +kernel
theorem dL_law_535 : decode code 535 = .ok (.iconst 0, 1) := by decide +kernel
theorem dL_law_536 : decode code 536 = .ok (.ireturn, 1) := by decide +kernel
theorem dL_law_537 : decode code 537 = .ok (.goto 295, 3) := by decide +kernel
theorem dL_law_540 : decode code 540 = .ok (.aload_n 1, 1) := by decide +kernel
theorem dL_law_541 : decode code 541 = .ok (.aload_n 0, 1) := by decide +kernel
theorem dL_law_542 : decode code 542 = .ok (.iload 4, 2) := by decide +kernel
theorem dL_law_544 : decode code 544 = .ok (.iconst 1, 1) := by decide +kernel
theorem dL_law_545 : decode code 545 = .ok (.iadd, 1) := by decide +kernel
theorem dL_law_546 : decode code 546 = .ok (.iaload, 1) := by decide +kernel
theorem dL_law_547 : decode code 547 = .ok (.aload_n 3, 1) := by decide +kernel
theorem dL_law_548 : decode code 548 = .ok (.invokestatic 97, 3) := by decide +kernel
theorem dL_law_551 : decode code 551 = .ok (.istore 5, 2) := by decide +kernel
theorem dL_law_553 : decode code 553 = .ok (.aload_n 2, 1) := by decide +kernel
theorem dL_law_554 : decode code 554 = .ok (.aload_n 0, 1) := by decide +kernel
theorem dL_law_555 : decode code 555 = .ok (.iload 4, 2) := by decide +kernel
theorem dL_law_557 : decode code 557 = .ok (.iconst 1, 1) := by decide +kernel
theorem dL_law_558 : decode code 558 = .ok (.iadd, 1) := by decide +kernel
theorem dL_law_559 : decode code 559 = .ok (.iaload, 1) := by decide +kernel
theorem dL_law_560 : decode code 560 = .ok (.invokevirtual 100, 3) := by decide +kernel
theorem dL_law_563 : decode code 563 = .ok (.istore 6, 2) := by decide +kernel
theorem dL_law_565 : decode code 565 = .ok (.aload_n 2, 1) := by decide +kernel
theorem dL_law_566 : decode code 566 = .ok (.invokevirtual 66, 3) := by decide +kernel
theorem dL_law_569 : decode code 569 = .ok (.iload 5, 2) := by decide +kernel
theorem dL_law_571 : decode code 571 = .ok (.if_icmp .eq 5, 3) := by decide +kernel
theorem dL_law_574 : decode code 574 = .ok (.iconst 0, 1) := by decide +kernel
theorem dL_law_575 : decode code 575 = .ok (.ireturn, 1) := by decide +kernel
theorem dL_law_576 : decode code 576 = .ok (.iload 5, 2) := by decide +kernel
theorem dL_law_578 : decode code 578 = .ok (.ifCond .ne 15, 3) := by decide +kernel
theorem dL_law_581 : decode code 581 = .ok (.aload_n 3, 1) := by decide +kernel
theorem dL_law_582 : decode code 582 = .ok (.iconst 0, 1) := by decide +kernel
theorem dL_law_583 : decode code 583 = .ok (.laload, 1) := by decide +kernel
theorem dL_law_584 : decode code 584 = .ok (.iload 6, 2) := by decide +kernel
theorem dL_law_586 : decode code 586 = .ok (.i2l, 1) := by decide +kernel
theorem dL_law_587 : decode code 587 = .ok (.lcmp, 1) := by decide +kernel
theorem dL_law_588 : decode code 588 = .ok (.ifCond .eq 5, 3) := by decide +kernel
theorem dL_law_591 : decode code 591 = .ok (.iconst 0, 1) := by decide +kernel
theorem dL_law_592 : decode code 592 = .ok (.ireturn, 1) := by decide +kernel
theorem dL_law_593 : decode code 593 = .ok (.goto 239, 3) := by decide +kernel
theorem dL_law_596 : decode code 596 = .ok (.aload_n 1, 1) := by decide +kernel
theorem dL_law_597 : decode code 597 = .ok (.aload_n 0, 1) := by decide +kernel
theorem dL_law_598 : decode code 598 = .ok (.iload 4, 2) := by decide +kernel
theorem dL_law_600 : decode code 600 = .ok (.iconst 1, 1) := by decide +kernel
theorem dL_law_601 : decode code 601 = .ok (.iadd, 1) := by decide +kernel
theorem dL_law_602 : decode code 602 = .ok (.iaload, 1) := by decide +kernel
theorem dL_law_603 : decode code 603 = .ok (.aload_n 0, 1) := by decide +kernel
theorem dL_law_604 : decode code 604 = .ok (.iload 4, 2) := by decide +kernel
theorem dL_law_606 : decode code 606 = .ok (.iconst 2, 1) := by decide +kernel
theorem dL_law_607 : decode code 607 = .ok (.iadd, 1) := by decide +kernel
theorem dL_law_608 : decode code 608 = .ok (.iaload, 1) := by decide +kernel
theorem dL_law_609 : decode code 609 = .ok (.aload_n 3, 1) := by decide +kernel
theorem dL_law_610 : decode code 610 = .ok (.invokestatic 101, 3) := by decide +kernel
theorem dL_law_613 : decode code 613 = .ok (.istore 5, 2) := by decide +kernel
theorem dL_law_615 : decode code 615 = .ok (.aload_n 2, 1) := by decide +kernel
theorem dL_law_616 : decode code 616 = .ok (.aload_n 0, 1) := by decide +kernel
theorem dL_law_617 : decode code 617 = .ok (.iload 4, 2) := by decide +kernel
theorem dL_law_619 : decode code 619 = .ok (.iconst 1, 1) := by decide +kernel
theorem dL_law_620 : decode code 620 = .ok (.iadd, 1) := by decide +kernel
theorem dL_law_621 : decode code 621 = .ok (.iaload, 1) := by decide +kernel
theorem dL_law_622 : decode code 622 = .ok (.aload_n 0, 1) := by decide +kernel
theorem dL_law_623 : decode code 623 = .ok (.iload 4, 2) := by decide +kernel
theorem dL_law_625 : decode code 625 = .ok (.iconst 2, 1) := by decide +kernel
theorem dL_law_626 : decode code 626 = .ok (.iadd, 1) := by decide +kernel
theorem dL_law_627 : decode code 627 = .ok (.iaload, 1) := by decide +kernel
theorem dL_law_628 : decode code 628 = .ok (.invokevirtual 103, 3) := by decide +kernel
theorem dL_law_631 : decode code 631 = .ok (.istore 6, 2) := by decide +kernel
theorem dL_law_633 : decode code 633 = .ok (.aload_n 2, 1) := by decide +kernel
theorem dL_law_634 : decode code 634 = .ok (.invokevirtual 66, 3) := by decide +kernel
theorem dL_law_637 : decode code 637 = .ok (.iload 5, 2) := by decide +kernel
theorem dL_law_639 : decode code 639 = .ok (.if_icmp .eq 5, 3) := by decide +kernel
theorem dL_law_642 : decode code 642 = .ok (.iconst 0, 1) := by decide +kernel
theorem dL_law_643 : decode code 643 = .ok (.ireturn, 1) := by decide +kernel
theorem dL_law_644 : decode code 644 = .ok (.iload 5, 2) := by decide +kernel
theorem dL_law_646 : decode code 646 = .ok (.ifCond .ne 15, 3) := by decide +kernel
theorem dL_law_649 : decode code 649 = .ok (.aload_n 3, 1) := by decide +kernel
theorem dL_law_650 : decode code 650 = .ok (.iconst 0, 1) := by decide +kernel
theorem dL_law_651 : decode code 651 = .ok (.laload, 1) := by decide +kernel
theorem dL_law_652 : decode code 652 = .ok (.iload 6, 2) := by decide +kernel
theorem dL_law_654 : decode code 654 = .ok (.i2l, 1) := by decide +kernel
theorem dL_law_655 : decode code 655 = .ok (.lcmp, 1) := by decide +kernel
theorem dL_law_656 : decode code 656 = .ok (.ifCond .eq 5, 3) := by decide +kernel
theorem dL_law_659 : decode code 659 = .ok (.iconst 0, 1) := by decide +kernel
theorem dL_law_660 : decode code 660 = .ok (.ireturn, 1) := by decide +kernel
theorem dL_law_661 : decode code 661 = .ok (.goto 171, 3) := by decide +kernel
theorem dL_law_664 : decode code 664 = .ok (.aload_n 1, 1) := by decide +kernel
theorem dL_law_665 : decode code 665 = .ok (.aload_n 0, 1) := by decide +kernel
theorem dL_law_666 : decode code 666 = .ok (.iload 4, 2) := by decide +kernel
theorem dL_law_668 : decode code 668 = .ok (.iconst 1, 1) := by decide +kernel
theorem dL_law_669 : decode code 669 = .ok (.iadd, 1) := by decide +kernel
theorem dL_law_670 : decode code 670 = .ok (.iaload, 1) := by decide +kernel
theorem dL_law_671 : decode code 671 = .ok (.aload_n 3, 1) := by decide +kernel
theorem dL_law_672 : decode code 672 = .ok (.invokestatic 104, 3) := by decide +kernel
theorem dL_law_675 : decode code 675 = .ok (.istore 5, 2) := by decide +kernel
theorem dL_law_677 : decode code 677 = .ok (.aload_n 2, 1) := by decide +kernel
theorem dL_law_678 : decode code 678 = .ok (.aload_n 0, 1) := by decide +kernel
theorem dL_law_679 : decode code 679 = .ok (.iload 4, 2) := by decide +kernel
theorem dL_law_681 : decode code 681 = .ok (.iconst 1, 1) := by decide +kernel
theorem dL_law_682 : decode code 682 = .ok (.iadd, 1) := by decide +kernel
theorem dL_law_683 : decode code 683 = .ok (.iaload, 1) := by decide +kernel
theorem dL_law_684 : decode code 684 = .ok (.invokevirtual 106, 3) := by decide +kernel
theorem dL_law_687 : decode code 687 = .ok (.istore 6, 2) := by decide +kernel
theorem dL_law_689 : decode code 689 = .ok (.aload_n 2, 1) := by decide +kernel
theorem dL_law_690 : decode code 690 = .ok (.invokevirtual 66, 3) := by decide +kernel
theorem dL_law_693 : decode code 693 = .ok (.iload 5, 2) := by decide +kernel
theorem dL_law_695 : decode code 695 = .ok (.if_icmp .eq 5, 3) := by decide +kernel
theorem dL_law_698 : decode code 698 = .ok (.iconst 0, 1) := by decide +kernel
theorem dL_law_699 : decode code 699 = .ok (.ireturn, 1) := by decide +kernel
theorem dL_law_700 : decode code 700 = .ok (.iload 5, 2) := by decide +kernel
theorem dL_law_702 : decode code 702 = .ok (.ifCond .ne 15, 3) := by decide +kernel
theorem dL_law_705 : decode code 705 = .ok (.aload_n 3, 1) := by decide +kernel
theorem dL_law_706 : decode code 706 = .ok (.iconst 0, 1) := by decide +kernel
theorem dL_law_707 : decode code 707 = .ok (.laload, 1) := by decide +kernel
theorem dL_law_708 : decode code 708 = .ok (.iload 6, 2) := by decide +kernel
theorem dL_law_710 : decode code 710 = .ok (.i2l, 1) := by decide +kernel
theorem dL_law_711 : decode code 711 = .ok (.lcmp, 1) := by decide +kernel
theorem dL_law_712 : decode code 712 = .ok (.ifCond .eq 5, 3) := by decide +kernel
theorem dL_law_715 : decode code 715 = .ok (.iconst 0, 1) := by decide +kernel
theorem dL_law_716 : decode code 716 = .ok (.ireturn, 1) := by decide +kernel
theorem dL_law_717 : decode code 717 = .ok (.goto 115, 3) := by decide +kernel
theorem dL_law_720 : decode code 720 = .ok (.aload_n 1, 1) := by decide +kernel
theorem dL_law_721 : decode code 721 = .ok (.aload_n 3, 1) := by decide +kernel
theorem dL_law_722 : decode code 722 = .ok (.invokestatic 107, 3) := by decide +kernel
theorem dL_law_725 : decode code 725 = .ok (.istore 5, 2) := by decide +kernel
theorem dL_law_727 : decode code 727 = .ok (.aload_n 2, 1) := by decide +kernel
theorem dL_law_728 : decode code 728 = .ok (.invokevirtual 110, 3) := by decide +kernel
theorem dL_law_731 : decode code 731 = .ok (.istore 6, 2) := by decide +kernel
theorem dL_law_733 : decode code 733 = .ok (.aload_n 2, 1) := by decide +kernel
theorem dL_law_734 : decode code 734 = .ok (.invokevirtual 66, 3) := by decide +kernel
theorem dL_law_737 : decode code 737 = .ok (.iload 5, 2) := by decide +kernel
theorem dL_law_739 : decode code 739 = .ok (.if_icmp .eq 5, 3) := by decide +kernel
theorem dL_law_742 : decode code 742 = .ok (.iconst 0, 1) := by decide +kernel
theorem dL_law_743 : decode code 743 = .ok (.ireturn, 1) := by decide +kernel
theorem dL_law_744 : decode code 744 = .ok (.iload 5, 2) := by decide +kernel
theorem dL_law_746 : decode code 746 = .ok (.ifCond .ne 15, 3) := by decide +kernel
theorem dL_law_749 : decode code 749 = .ok (.aload_n 3, 1) := by decide +kernel
theorem dL_law_750 : decode code 750 = .ok (.iconst 0, 1) := by decide +kernel
theorem dL_law_751 : decode code 751 = .ok (.laload, 1) := by decide +kernel
theorem dL_law_752 : decode code 752 = .ok (.iload 6, 2) := by decide +kernel
theorem dL_law_754 : decode code 754 = .ok (.i2l, 1) := by decide +kernel
theorem dL_law_755 : decode code 755 = .ok (.lcmp, 1) := by decide +kernel
theorem dL_law_756 : decode code 756 = .ok (.ifCond .eq 5, 3) := by decide +kernel
theorem dL_law_759 : decode code 759 = .ok (.iconst 0, 1) := by decide +kernel
theorem dL_law_760 : decode code 760 = .ok (.ireturn, 1) := by decide +kernel
theorem dL_law_761 : decode code 761 = .ok (.goto 71, 3) := by decide +kernel
theorem dL_law_764 : decode code 764 = .ok (.aload_n 1, 1) := by decide +kernel
theorem dL_law_765 : decode code 765 = .ok (.aload_n 0, 1) := by decide +kernel
theorem dL_law_766 : decode code 766 = .ok (.iload 4, 2) := by decide +kernel
theorem dL_law_768 : decode code 768 = .ok (.iconst 1, 1) := by decide +kernel
theorem dL_law_769 : decode code 769 = .ok (.iadd, 1) := by decide +kernel
theorem dL_law_770 : decode code 770 = .ok (.iaload, 1) := by decide +kernel
theorem dL_law_771 : decode code 771 = .ok (.aload_n 0, 1) := by decide +kernel
theorem dL_law_772 : decode code 772 = .ok (.iload 4, 2) := by decide +kernel
theorem dL_law_774 : decode code 774 = .ok (.iconst 2, 1) := by decide +kernel
theorem dL_law_775 : decode code 775 = .ok (.iadd, 1) := by decide +kernel
theorem dL_law_776 : decode code 776 = .ok (.iaload, 1) := by decide +kernel
theorem dL_law_777 : decode code 777 = .ok (.aload_n 3, 1) := by decide +kernel
theorem dL_law_778 : decode code 778 = .ok (.invokestatic 111, 3) := by decide +kernel
theorem dL_law_781 : decode code 781 = .ok (.istore 5, 2) := by decide +kernel
theorem dL_law_783 : decode code 783 = .ok (.aload_n 2, 1) := by decide +kernel
theorem dL_law_784 : decode code 784 = .ok (.aload_n 0, 1) := by decide +kernel
theorem dL_law_785 : decode code 785 = .ok (.iload 4, 2) := by decide +kernel
theorem dL_law_787 : decode code 787 = .ok (.iconst 1, 1) := by decide +kernel
theorem dL_law_788 : decode code 788 = .ok (.iadd, 1) := by decide +kernel
theorem dL_law_789 : decode code 789 = .ok (.iaload, 1) := by decide +kernel
theorem dL_law_790 : decode code 790 = .ok (.aload_n 0, 1) := by decide +kernel
theorem dL_law_791 : decode code 791 = .ok (.iload 4, 2) := by decide +kernel
theorem dL_law_793 : decode code 793 = .ok (.iconst 2, 1) := by decide +kernel
theorem dL_law_794 : decode code 794 = .ok (.iadd, 1) := by decide +kernel
theorem dL_law_795 : decode code 795 = .ok (.iaload, 1) := by decide +kernel
theorem dL_law_796 : decode code 796 = .ok (.invokevirtual 113, 3) := by decide +kernel
theorem dL_law_799 : decode code 799 = .ok (.istore 6, 2) := by decide +kernel
theorem dL_law_801 : decode code 801 = .ok (.aload_n 2, 1) := by decide +kernel
theorem dL_law_802 : decode code 802 = .ok (.invokevirtual 66, 3) := by decide +kernel
theorem dL_law_805 : decode code 805 = .ok (.iload 5, 2) := by decide +kernel
theorem dL_law_807 : decode code 807 = .ok (.if_icmp .eq 5, 3) := by decide +kernel
theorem dL_law_810 : decode code 810 = .ok (.iconst 0, 1) := by decide +kernel
theorem dL_law_811 : decode code 811 = .ok (.ireturn, 1) := by decide +kernel
theorem dL_law_812 : decode code 812 = .ok (.iload 5, 2) := by decide +kernel
theorem dL_law_814 : decode code 814 = .ok (.ifCond .ne 15, 3) := by decide +kernel
theorem dL_law_817 : decode code 817 = .ok (.aload_n 3, 1) := by decide +kernel
theorem dL_law_818 : decode code 818 = .ok (.iconst 0, 1) := by decide +kernel
theorem dL_law_819 : decode code 819 = .ok (.laload, 1) := by decide +kernel
theorem dL_law_820 : decode code 820 = .ok (.iload 6, 2) := by decide +kernel
theorem dL_law_822 : decode code 822 = .ok (.i2l, 1) := by decide +kernel
theorem dL_law_823 : decode code 823 = .ok (.lcmp, 1) := by decide +kernel
theorem dL_law_824 : decode code 824 = .ok (.ifCond .eq 5, 3) := by decide +kernel
theorem dL_law_827 : decode code 827 = .ok (.iconst 0, 1) := by decide +kernel
theorem dL_law_828 : decode code 828 = .ok (.ireturn, 1) := by decide +kernel
theorem dL_law_829 : decode code 829 = .ok (.goto 3, 3) := by decide +kernel
theorem dL_law_832 : decode code 832 = .ok (.iinc 4 7, 3) := by decide +kernel
theorem dL_law_835 : decode code 835 = .ok (.goto (-812), 3) := by decide +kernel
theorem dL_law_838 : decode code 838 = .ok (.iconst 1, 1) := by decide +kernel
theorem dL_law_839 : decode code 839 = .ok (.ireturn, 1) := by decide +kernel
