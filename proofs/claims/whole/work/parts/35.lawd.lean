theorem d_L_law_0 : decode code 0 = .ok (.new 8, 3) := by decide +kernel
theorem d_L_law_3 : decode code 3 = .ok (.dup, 1) := by decide +kernel
theorem d_L_law_4 : decode code 4 = .ok (.invokespecial 71, 3) := by decide +kernel
theorem d_L_law_7 : decode code 7 = .ok (.astore_n 1, 1) := by decide +kernel
theorem d_L_law_8 : decode code 8 = .ok (.new 72, 3) := by decide +kernel
theorem d_L_law_11 : decode code 11 = .ok (.dup, 1) := by decide +kernel
theorem d_L_law_12 : decode code 12 = .ok (.invokespecial 74, 3) := by decide +kernel
theorem d_L_law_15 : decode code 15 = .ok (.astore_n 2, 1) := by decide +kernel
theorem d_L_law_16 : decode code 16 = .ok (.iconst 1, 1) := by decide +kernel
theorem d_L_law_17 : decode code 17 = .ok (.newarray .long, 2) := by decide +kernel
theorem d_L_law_19 : decode code 19 = .ok (.astore_n 3, 1) := by decide +kernel
theorem d_L_law_20 : decode code 20 = .ok (.iconst 0, 1) := by decide +kernel
theorem d_L_law_21 : decode code 21 = .ok (.istore 4, 2) := by decide +kernel
theorem d_L_law_23 : decode code 23 = .ok (.iload 4, 2) := by decide +kernel
theorem d_L_law_25 : decode code 25 = .ok (.aload_n 0, 1) := by decide +kernel
theorem d_L_law_26 : decode code 26 = .ok (.arraylength, 1) := by decide +kernel
theorem d_L_law_27 : decode code 27 = .ok (.bipush 6, 2) := by decide +kernel
theorem d_L_law_29 : decode code 29 = .ok (.isub, 1) := by decide +kernel
theorem d_L_law_30 : decode code 30 = .ok (.if_icmp .gt 1321, 3) := by decide +kernel
theorem d_L_law_33 : decode code 33 = .ok (.aload_n 0, 1) := by decide +kernel
theorem d_L_law_34 : decode code 34 = .ok (.iload 4, 2) := by decide +kernel
theorem d_L_law_36 : decode code 36 = .ok (.iaload, 1) := by decide +kernel
theorem d_L_law_37 : decode code 37 = .ok (.bipush 15, 2) := by decide +kernel
theorem d_L_law_39 : decode code 39 = .ok (.iand, 1) := by decide +kernel
theorem d_L_law_40 : decode code 40 = .ok (.tableswitch 1305 0 15 #[80, 180, 268, 336, 404, 460, 552, 672, 752, 844, 924, 1016, 1084, 1139, 1194, 1249], 80) := by decide +kernel
theorem d_L_law_120 : decode code 120 = .ok (.aload_n 1, 1) := by decide +kernel
theorem d_L_law_121 : decode code 121 = .ok (.aload_n 0, 1) := by decide +kernel
theorem d_L_law_122 : decode code 122 = .ok (.iload 4, 2) := by decide +kernel
theorem d_L_law_124 : decode code 124 = .ok (.iconst 1, 1) := by decide +kernel
theorem d_L_law_125 : decode code 125 = .ok (.iadd, 1) := by decide +kernel
theorem d_L_law_126 : decode code 126 = .ok (.iaload, 1) := by decide +kernel
theorem d_L_law_127 : decode code 127 = .ok (.aload_n 0, 1) := by decide +kernel
theorem d_L_law_128 : decode code 128 = .ok (.iload 4, 2) := by decide +kernel
theorem d_L_law_130 : decode code 130 = .ok (.iconst 2, 1) := by decide +kernel
theorem d_L_law_131 : decode code 131 = .ok (.iadd, 1) := by decide +kernel
theorem d_L_law_132 : decode code 132 = .ok (.iaload, 1) := by decide +kernel
theorem d_L_law_133 : decode code 133 = .ok (.i2l, 1) := by decide +kernel
theorem d_L_law_134 : decode code 134 = .ok (.bipush 32, 2) := by decide +kernel
theorem d_L_law_136 : decode code 136 = .ok (.lshl, 1) := by decide +kernel
theorem d_L_law_137 : decode code 137 = .ok (.aload_n 0, 1) := by decide +kernel
theorem d_L_law_138 : decode code 138 = .ok (.iload 4, 2) := by decide +kernel
theorem d_L_law_140 : decode code 140 = .ok (.iconst 3, 1) := by decide +kernel
theorem d_L_law_141 : decode code 141 = .ok (.iadd, 1) := by decide +kernel
theorem d_L_law_142 : decode code 142 = .ok (.iaload, 1) := by decide +kernel
theorem d_L_law_143 : decode code 143 = .ok (.i2l, 1) := by decide +kernel
theorem d_L_law_144 : decode code 144 = .ok (.ldc2_w 75, 3) := by decide +kernel
theorem d_L_law_147 : decode code 147 = .ok (.land, 1) := by decide +kernel
theorem d_L_law_148 : decode code 148 = .ok (.lor, 1) := by decide +kernel
theorem d_L_law_149 : decode code 149 = .ok (.aload_n 3, 1) := by decide +kernel
theorem d_L_law_150 : decode code 150 = .ok (.invokestatic 77, 3) := by decide +kernel
theorem d_L_law_153 : decode code 153 = .ok (.istore 5, 2) := by decide +kernel
theorem d_L_law_155 : decode code 155 = .ok (.aload_n 2, 1) := by decide +kernel
theorem d_L_law_156 : decode code 156 = .ok (.aload_n 0, 1) := by decide +kernel
theorem d_L_law_157 : decode code 157 = .ok (.iload 4, 2) := by decide +kernel
theorem d_L_law_159 : decode code 159 = .ok (.iconst 1, 1) := by decide +kernel
theorem d_L_law_160 : decode code 160 = .ok (.iadd, 1) := by decide +kernel
theorem d_L_law_161 : decode code 161 = .ok (.iaload, 1) := by decide +kernel
theorem d_L_law_162 : decode code 162 = .ok (.aload_n 0, 1) := by decide +kernel
theorem d_L_law_163 : decode code 163 = .ok (.iload 4, 2) := by decide +kernel
theorem d_L_law_165 : decode code 165 = .ok (.iconst 2, 1) := by decide +kernel
theorem d_L_law_166 : decode code 166 = .ok (.iadd, 1) := by decide +kernel
theorem d_L_law_167 : decode code 167 = .ok (.iaload, 1) := by decide +kernel
theorem d_L_law_168 : decode code 168 = .ok (.i2l, 1) := by decide +kernel
theorem d_L_law_169 : decode code 169 = .ok (.bipush 32, 2) := by decide +kernel
theorem d_L_law_171 : decode code 171 = .ok (.lshl, 1) := by decide +kernel
theorem d_L_law_172 : decode code 172 = .ok (.aload_n 0, 1) := by decide +kernel
theorem d_L_law_173 : decode code 173 = .ok (.iload 4, 2) := by decide +kernel
theorem d_L_law_175 : decode code 175 = .ok (.iconst 3, 1) := by decide +kernel
theorem d_L_law_176 : decode code 176 = .ok (.iadd, 1) := by decide +kernel
theorem d_L_law_177 : decode code 177 = .ok (.iaload, 1) := by decide +kernel
theorem d_L_law_178 : decode code 178 = .ok (.i2l, 1) := by decide +kernel
theorem d_L_law_179 : decode code 179 = .ok (.ldc2_w 75, 3) := by decide +kernel
theorem d_L_law_182 : decode code 182 = .ok (.land, 1) := by decide +kernel
theorem d_L_law_183 : decode code 183 = .ok (.lor, 1) := by decide +kernel
theorem d_L_law_184 : decode code 184 = .ok (.invokevirtual 82, 3) := by decide +kernel
theorem d_L_law_187 : decode code 187 = .ok (.istore 6, 2) := by decide +kernel
theorem d_L_law_189 : decode code 189 = .ok (.aload_n 2, 1) := by decide +kernel
theorem d_L_law_190 : decode code 190 = .ok (.invokevirtual 83, 3) := by decide +kernel
theorem d_L_law_193 : decode code 193 = .ok (.iload 5, 2) := by decide +kernel
theorem d_L_law_195 : decode code 195 = .ok (.if_icmp .eq 5, 3) := by decide +kernel
theorem d_L_law_198 : decode code 198 = .ok (.iconst 0, 1) := by decide +kernel
theorem d_L_law_199 : decode code 199 = .ok (.ireturn, 1) := by decide +kernel
theorem d_L_law_200 : decode code 200 = .ok (.iload 5, 2) := by decide +kernel
theorem d_L_law_202 : decode code 202 = .ok (.ifCond .ne 15, 3) := by decide +kernel
theorem d_L_law_205 : decode code 205 = .ok (.aload_n 3, 1) := by decide +kernel
theorem d_L_law_206 : decode code 206 = .ok (.iconst 0, 1) := by decide +kernel
theorem d_L_law_207 : decode code 207 = .ok (.laload, 1) := by decide +kernel
theorem d_L_law_208 : decode code 208 = .ok (.iload 6, 2) := by decide +kernel
theorem d_L_law_210 : decode code 210 = .ok (.i2l, 1) := by decide +kernel
theorem d_L_law_211 : decode code 211 = .ok (.lcmp, 1) := by decide +kernel
theorem d_L_law_212 : decode code 212 = .ok (.ifCond .eq 5, 3) := by decide +kernel
theorem d_L_law_215 : decode code 215 = .ok (.iconst 0, 1) := by decide +kernel
theorem d_L_law_216 : decode code 216 = .ok (.ireturn, 1) := by decide +kernel
theorem d_L_law_217 : decode code 217 = .ok (.goto 1128, 3) := by decide +kernel
theorem d_L_law_220 : decode code 220 = .ok (.aload_n 1, 1) := by decide +kernel
theorem d_L_law_221 : decode code 221 = .ok (.aload_n 0, 1) := by decide +kernel
theorem d_L_law_222 : decode code 222 = .ok (.iload 4, 2) := by decide +kernel
theorem d_L_law_224 : decode code 224 = .ok (.iconst 1, 1) := by decide +kernel
theorem d_L_law_225 : decode code 225 = .ok (.iadd, 1) := by decide +kernel
theorem d_L_law_226 : decode code 226 = .ok (.iaload, 1) := by decide +kernel
theorem d_L_law_227 : decode code 227 = .ok (.i2l, 1) := by decide +kernel
theorem d_L_law_228 : decode code 228 = .ok (.bipush 32, 2) := by decide +kernel
theorem d_L_law_230 : decode code 230 = .ok (.lshl, 1) := by decide +kernel
theorem d_L_law_231 : decode code 231 = .ok (.aload_n 0, 1) := by decide +kernel
theorem d_L_law_232 : decode code 232 = .ok (.iload 4, 2) := by decide +kernel
theorem d_L_law_234 : decode code 234 = .ok (.iconst 2, 1) := by decide +kernel
theorem d_L_law_235 : decode code 235 = .ok (.iadd, 1) := by decide +kernel
theorem d_L_law_236 : decode code 236 = .ok (.iaload, 1) := by decide +kernel
theorem d_L_law_237 : decode code 237 = .ok (.i2l, 1) := by decide +kernel
theorem d_L_law_238 : decode code 238 = .ok (.ldc2_w 75, 3) := by decide +kernel
theorem d_L_law_241 : decode code 241 = .ok (.land, 1) := by decide +kernel
theorem d_L_law_242 : decode code 242 = .ok (.lor, 1) := by decide +kernel
theorem d_L_law_243 : decode code 243 = .ok (.aload_n 3, 1) := by decide +kernel
theorem d_L_law_244 : decode code 244 = .ok (.invokestatic 87, 3) := by decide +kernel
theorem d_L_law_247 : decode code 247 = .ok (.istore 5, 2) := by decide +kernel
theorem d_L_law_249 : decode code 249 = .ok (.aload_n 2, 1) := by decide +kernel
theorem d_L_law_250 : decode code 250 = .ok (.aload_n 0, 1) := by decide +kernel
theorem d_L_law_251 : decode code 251 = .ok (.iload 4, 2) := by decide +kernel
theorem d_L_law_253 : decode code 253 = .ok (.iconst 1, 1) := by decide +kernel
theorem d_L_law_254 : decode code 254 = .ok (.iadd, 1) := by decide +kernel
theorem d_L_law_255 : decode code 255 = .ok (.iaload, 1) := by decide +kernel
theorem d_L_law_256 : decode code 256 = .ok (.i2l, 1) := by decide +kernel
theorem d_L_law_257 : decode code 257 = .ok (.bipush 32, 2) := by decide +kernel
theorem d_L_law_259 : decode code 259 = .ok (.lshl, 1) := by decide +kernel
theorem d_L_law_260 : decode code 260 = .ok (.aload_n 0, 1) := by decide +kernel
theorem d_L_law_261 : decode code 261 = .ok (.iload 4, 2) := by decide +kernel
theorem d_L_law_263 : decode code 263 = .ok (.iconst 2, 1) := by decide +kernel
theorem d_L_law_264 : decode code 264 = .ok (.iadd, 1) := by decide +kernel
theorem d_L_law_265 : decode code 265 = .ok (.iaload, 1) := by decide +kernel
theorem d_L_law_266 : decode code 266 = .ok (.i2l, 1) := by decide +kernel
theorem d_L_law_267 : decode code 267 = .ok (.ldc2_w 75, 3) := by decide +kernel
theorem d_L_law_270 : decode code 270 = .ok (.land, 1) := by decide +kernel
theorem d_L_law_271 : decode code 271 = .ok (.lor, 1) := by decide +kernel
theorem d_L_law_272 : decode code 272 = .ok (.invokevirtual 90, 3) := by decide +kernel
theorem d_L_law_275 : decode code 275 = .ok (.istore 6, 2) := by decide +kernel
theorem d_L_law_277 : decode code 277 = .ok (.aload_n 2, 1) := by decide +kernel
theorem d_L_law_278 : decode code 278 = .ok (.invokevirtual 83, 3) := by decide +kernel
theorem d_L_law_281 : decode code 281 = .ok (.iload 5, 2) := by decide +kernel
theorem d_L_law_283 : decode code 283 = .ok (.if_icmp .eq 5, 3) := by decide +kernel
theorem d_L_law_286 : decode code 286 = .ok (.iconst 0, 1) := by decide +kernel
theorem d_L_law_287 : decode code 287 = .ok (.ireturn, 1) := by decide +kernel
theorem d_L_law_288 : decode code 288 = .ok (.iload 5, 2) := by decide +kernel
theorem d_L_law_290 : decode code 290 = .ok (.ifCond .ne 15, 3) := by decide +kernel
theorem d_L_law_293 : decode code 293 = .ok (.aload_n 3, 1) := by decide +kernel
theorem d_L_law_294 : decode code 294 = .ok (.iconst 0, 1) := by decide +kernel
theorem d_L_law_295 : decode code 295 = .ok (.laload, 1) := by decide +kernel
theorem d_L_law_296 : decode code 296 = .ok (.iload 6, 2) := by decide +kernel
theorem d_L_law_298 : decode code 298 = .ok (.i2l, 1) := by decide +kernel
theorem d_L_law_299 : decode code 299 = .ok (.lcmp, 1) := by decide +kernel
theorem d_L_law_300 : decode code 300 = .ok (.ifCond .eq 5, 3) := by decide +kernel
theorem d_L_law_303 : decode code 303 = .ok (.iconst 0, 1) := by decide +kernel
theorem d_L_law_304 : decode code 304 = .ok (.ireturn, 1) := by decide +kernel
theorem d_L_law_305 : decode code 305 = .ok (.goto 1040, 3) := by decide +kernel
theorem d_L_law_308 : decode code 308 = .ok (.aload_n 1, 1) := by decide +kernel
theorem d_L_law_309 : decode code 309 = .ok (.aload_n 0, 1) := by decide +kernel
theorem d_L_law_310 : decode code 310 = .ok (.iload 4, 2) := by decide +kernel
theorem d_L_law_312 : decode code 312 = .ok (.iconst 1, 1) := by decide +kernel
theorem d_L_law_313 : decode code 313 = .ok (.iadd, 1) := by decide +kernel
theorem d_L_law_314 : decode code 314 = .ok (.iaload, 1) := by decide +kernel
theorem d_L_law_315 : decode code 315 = .ok (.aload_n 0, 1) := by decide +kernel
theorem d_L_law_316 : decode code 316 = .ok (.iload 4, 2) := by decide +kernel
theorem d_L_law_318 : decode code 318 = .ok (.iconst 2, 1) := by decide +kernel
theorem d_L_law_319 : decode code 319 = .ok (.iadd, 1) := by decide +kernel
theorem d_L_law_320 : decode code 320 = .ok (.iaload, 1) := by decide +kernel
theorem d_L_law_321 : decode code 321 = .ok (.aload_n 3, 1) := by decide +kernel
theorem d_L_law_322 : decode code 322 = .ok (.invokestatic 91, 3) := by decide +kernel
theorem d_L_law_325 : decode code 325 = .ok (.istore 5, 2) := by decide +kernel
theorem d_L_law_327 : decode code 327 = .ok (.aload_n 2, 1) := by decide +kernel
theorem d_L_law_328 : decode code 328 = .ok (.aload_n 0, 1) := by decide +kernel
theorem d_L_law_329 : decode code 329 = .ok (.iload 4, 2) := by decide +kernel
theorem d_L_law_331 : decode code 331 = .ok (.iconst 1, 1) := by decide +kernel
theorem d_L_law_332 : decode code 332 = .ok (.iadd, 1) := by decide +kernel
theorem d_L_law_333 : decode code 333 = .ok (.iaload, 1) := by decide +kernel
theorem d_L_law_334 : decode code 334 = .ok (.aload_n 0, 1) := by decide +kernel
theorem d_L_law_335 : decode code 335 = .ok (.iload 4, 2) := by decide +kernel
theorem d_L_law_337 : decode code 337 = .ok (.iconst 2, 1) := by decide +kernel
theorem d_L_law_338 : decode code 338 = .ok (.iadd, 1) := by decide +kernel
theorem d_L_law_339 : decode code 339 = .ok (.iaload, 1) := by decide +kernel
theorem d_L_law_340 : decode code 340 = .ok (.invokevirtual 94, 3) := by decide +kernel
theorem d_L_law_343 : decode code 343 = .ok (.istore 6, 2) := by decide +kernel
theorem d_L_law_345 : decode code 345 = .ok (.aload_n 2, 1) := by decide +kernel
theorem d_L_law_346 : decode code 346 = .ok (.invokevirtual 83, 3) := by decide +kernel
theorem d_L_law_349 : decode code 349 = .ok (.iload 5, 2) := by decide +kernel
theorem d_L_law_351 : decode code 351 = .ok (.if_icmp .eq 5, 3) := by decide +kernel
theorem d_L_law_354 : decode code 354 = .ok (.iconst 0, 1) := by decide +kernel
theorem d_L_law_355 : decode code 355 = .ok (.ireturn, 1) := by decide +kernel
theorem d_L_law_356 : decode code 356 = .ok (.iload 5, 2) := by decide +kernel
theorem d_L_law_358 : decode code 358 = .ok (.ifCond .ne 15, 3) := by decide +kernel
theorem d_L_law_361 : decode code 361 = .ok (.aload_n 3, 1) := by decide +kernel
theorem d_L_law_362 : decode code 362 = .ok (.iconst 0, 1) := by decide +kernel
theorem d_L_law_363 : decode code 363 = .ok (.laload, 1) := by decide +kernel
theorem d_L_law_364 : decode code 364 = .ok (.iload 6, 2) := by decide +kernel
theorem d_L_law_366 : decode code 366 = .ok (.i2l, 1) := by decide +kernel
theorem d_L_law_367 : decode code 367 = .ok (.lcmp, 1) := by decide +kernel
theorem d_L_law_368 : decode code 368 = .ok (.ifCond .eq 5, 3) := by decide +kernel
theorem d_L_law_371 : decode code 371 = .ok (.iconst 0, 1) := by decide +kernel
theorem d_L_law_372 : decode code 372 = .ok (.ireturn, 1) := by decide +kernel
theorem d_L_law_373 : decode code 373 = .ok (.goto 972, 3) := by decide +kernel
theorem d_L_law_376 : decode code 376 = .ok (.aload_n 1, 1) := by decide +kernel
theorem d_L_law_377 : decode code 377 = .ok (.aload_n 0, 1) := by decide +kernel
theorem d_L_law_378 : decode code 378 = .ok (.iload 4, 2) := by decide +kernel
theorem d_L_law_380 : decode code 380 = .ok (.iconst 1, 1) := by decide +kernel
theorem d_L_law_381 : decode code 381 = .ok (.iadd, 1) := by decide +kernel
theorem d_L_law_382 : decode code 382 = .ok (.iaload, 1) := by decide +kernel
theorem d_L_law_383 : decode code 383 = .ok (.aload_n 0, 1) := by decide +kernel
theorem d_L_law_384 : decode code 384 = .ok (.iload 4, 2) := by decide +kernel
theorem d_L_law_386 : decode code 386 = .ok (.iconst 2, 1) := by decide +kernel
theorem d_L_law_387 : decode code 387 = .ok (.iadd, 1) := by decide +kernel
theorem d_L_law_388 : decode code 388 = .ok (.iaload, 1) := by decide +kernel
theorem d_L_law_389 : decode code 389 = .ok (.aload_n 3, 1) := by decide +kernel
theorem d_L_law_390 : decode code 390 = .ok (.invokestatic 95, 3) := by decide +kernel
theorem d_L_law_393 : decode code 393 = .ok (.istore 5, 2) := by decide +kernel
theorem d_L_law_395 : decode code 395 = .ok (.aload_n 2, 1) := by decide +kernel
theorem d_L_law_396 : decode code 396 = .ok (.aload_n 0, 1) := by decide +kernel
theorem d_L_law_397 : decode code 397 = .ok (.iload 4, 2) := by decide +kernel
theorem d_L_law_399 : decode code 399 = .ok (.iconst 1, 1) := by decide +kernel
theorem d_L_law_400 : decode code 400 = .ok (.iadd, 1) := by decide +kernel
theorem d_L_law_401 : decode code 401 = .ok (.iaload, 1) := by decide +kernel
theorem d_L_law_402 : decode code 402 = .ok (.aload_n 0, 1) := by decide +kernel
theorem d_L_law_403 : decode code 403 = .ok (.iload 4, 2) := by decide +kernel
theorem d_L_law_405 : decode code 405 = .ok (.iconst 2, 1) := by decide +kernel
theorem d_L_law_406 : decode code 406 = .ok (.iadd, 1) := by decide +kernel
theorem d_L_law_407 : decode code 407 = .ok (.iaload, 1) := by decide +kernel
theorem d_L_law_408 : decode code 408 = .ok (.invokevirtual 97, 3) := by decide +kernel
theorem d_L_law_411 : decode code 411 = .ok (.istore 6, 2) := by decide +kernel
theorem d_L_law_413 : decode code 413 = .ok (.aload_n 2, 1) := by decide +kernel
theorem d_L_law_414 : decode code 414 = .ok (.invokevirtual 83, 3) := by decide +kernel
theorem d_L_law_417 : decode code 417 = .ok (.iload 5, 2) := by decide +kernel
theorem d_L_law_419 : decode code 419 = .ok (.if_icmp .eq 5, 3) := by decide +kernel
theorem d_L_law_422 : decode code 422 = .ok (.iconst 0, 1) := by decide +kernel
theorem d_L_law_423 : decode code 423 = .ok (.ireturn, 1) := by decide +kernel
theorem d_L_law_424 : decode code 424 = .ok (.iload 5, 2) := by decide +kernel
theorem d_L_law_426 : decode code 426 = .ok (.ifCond .ne 15, 3) := by decide +kernel
theorem d_L_law_429 : decode code 429 = .ok (.aload_n 3, 1) := by decide +kernel
theorem d_L_law_430 : decode code 430 = .ok (.iconst 0, 1) := by decide +kernel
theorem d_L_law_431 : decode code 431 = .ok (.laload, 1) := by decide +kernel
theorem d_L_law_432 : decode code 432 = .ok (.iload 6, 2) := by decide +kernel
theorem d_L_law_434 : decode code 434 = .ok (.i2l, 1) := by decide +kernel
theorem d_L_law_435 : decode code 435 = .ok (.lcmp, 1) := by decide +kernel
theorem d_L_law_436 : decode code 436 = .ok (.ifCond .eq 5, 3) := by decide +kernel
theorem d_L_law_439 : decode code 439 = .ok (.iconst 0, 1) := by decide +kernel
theorem d_L_law_440 : decode code 440 = .ok (.ireturn, 1) := by decide +kernel
theorem d_L_law_441 : decode code 441 = .ok (.goto 904, 3) := by decide +kernel
theorem d_L_law_444 : decode code 444 = .ok (.aload_n 1, 1) := by decide +kernel
theorem d_L_law_445 : decode code 445 = .ok (.aload_n 0, 1) := by decide +kernel
theorem d_L_law_446 : decode code 446 = .ok (.iload 4, 2) := by decide +kernel
theorem d_L_law_448 : decode code 448 = .ok (.iconst 1, 1) := by decide +kernel
theorem d_L_law_449 : decode code 449 = .ok (.iadd, 1) := by decide +kernel
theorem d_L_law_450 : decode code 450 = .ok (.iaload, 1) := by decide +kernel
theorem d_L_law_451 : decode code 451 = .ok (.aload_n 3, 1) := by decide +kernel
theorem d_L_law_452 : decode code 452 = .ok (.invokestatic 98, 3) := by decide +kernel
theorem d_L_law_455 : decode code 455 = .ok (.istore 5, 2) := by decide +kernel
theorem d_L_law_457 : decode code 457 = .ok (.aload_n 2, 1) := by decide +kernel
theorem d_L_law_458 : decode code 458 = .ok (.aload_n 0, 1) := by decide +kernel
theorem d_L_law_459 : decode code 459 = .ok (.iload 4, 2) := by decide +kernel
theorem d_L_law_461 : decode code 461 = .ok (.iconst 1, 1) := by decide +kernel
theorem d_L_law_462 : decode code 462 = .ok (.iadd, 1) := by decide +kernel
theorem d_L_law_463 : decode code 463 = .ok (.iaload, 1) := by decide +kernel
theorem d_L_law_464 : decode code 464 = .ok (.invokevirtual 101, 3) := by decide +kernel
theorem d_L_law_467 : decode code 467 = .ok (.istore 6, 2) := by decide +kernel
theorem d_L_law_469 : decode code 469 = .ok (.aload_n 2, 1) := by decide +kernel
theorem d_L_law_470 : decode code 470 = .ok (.invokevirtual 83, 3) := by decide +kernel
theorem d_L_law_473 : decode code 473 = .ok (.iload 5, 2) := by decide +kernel
theorem d_L_law_475 : decode code 475 = .ok (.if_icmp .eq 5, 3) := by decide +kernel
theorem d_L_law_478 : decode code 478 = .ok (.iconst 0, 1) := by decide +kernel
theorem d_L_law_479 : decode code 479 = .ok (.ireturn, 1) := by decide +kernel
theorem d_L_law_480 : decode code 480 = .ok (.iload 5, 2) := by decide +kernel
theorem d_L_law_482 : decode code 482 = .ok (.ifCond .ne 15, 3) := by decide +kernel
theorem d_L_law_485 : decode code 485 = .ok (.aload_n 3, 1) := by decide +kernel
theorem d_L_law_486 : decode code 486 = .ok (.iconst 0, 1) := by decide +kernel
theorem d_L_law_487 : decode code 487 = .ok (.laload, 1) := by decide +kernel
theorem d_L_law_488 : decode code 488 = .ok (.iload 6, 2) := by decide +kernel
theorem d_L_law_490 : decode code 490 = .ok (.i2l, 1) := by decide +kernel
theorem d_L_law_491 : decode code 491 = .ok (.lcmp, 1) := by decide +kernel
theorem d_L_law_492 : decode code 492 = .ok (.ifCond .eq 5, 3) := by decide +kernel
theorem d_L_law_495 : decode code 495 = .ok (.iconst 0, 1) := by decide +kernel
theorem d_L_law_496 : decode code 496 = .ok (.ireturn, 1) := by decide +kernel
theorem d_L_law_497 : decode code 497 = .ok (.goto 848, 3) := by decide +kernel
theorem d_L_law_500 : decode code 500 = .ok (.aload_n 1, 1) := by decide +kernel
theorem d_L_law_501 : decode code 501 = .ok (.aload_n 0, 1) := by decide +kernel
theorem d_L_law_502 : decode code 502 = .ok (.iload 4, 2) := by decide +kernel
theorem d_L_law_504 : decode code 504 = .ok (.iconst 1, 1) := by decide +kernel
theorem d_L_law_505 : decode code 505 = .ok (.iadd, 1) := by decide +kernel
theorem d_L_law_506 : decode code 506 = .ok (.iaload, 1) := by decide +kernel
theorem d_L_law_507 : decode code 507 = .ok (.aload_n 0, 1) := by decide +kernel
theorem d_L_law_508 : decode code 508 = .ok (.iload 4, 2) := by decide +kernel
theorem d_L_law_510 : decode code 510 = .ok (.iconst 2, 1) := by decide +kernel
theorem d_L_law_511 : decode code 511 = .ok (.iadd, 1) := by decide +kernel
theorem d_L_law_512 : decode code 512 = .ok (.iaload, 1) := by decide +kernel
theorem d_L_law_513 : decode code 513 = .ok (.aload_n 0, 1) := by decide +kernel
theorem d_L_law_514 : decode code 514 = .ok (.iload 4, 2) := by decide +kernel
theorem d_L_law_516 : decode code 516 = .ok (.iconst 3, 1) := by decide +kernel
theorem d_L_law_517 : decode code 517 = .ok (.iadd, 1) := by decide +kernel
theorem d_L_law_518 : decode code 518 = .ok (.iaload, 1) := by decide +kernel
theorem d_L_law_519 : decode code 519 = .ok (.aload_n 0, 1) := by decide +kernel
theorem d_L_law_520 : decode code 520 = .ok (.iload 4, 2) := by decide +kernel
theorem d_L_law_522 : decode code 522 = .ok (.iconst 4, 1) := by decide +kernel
theorem d_L_law_523 : decode code 523 = .ok (.iadd, 1) := by decide +kernel
theorem d_L_law_524 : decode code 524 = .ok (.iaload, 1) := by decide +kernel
theorem d_L_law_525 : decode code 525 = .ok (.aload_n 3, 1) := by decide +kernel
theorem d_L_law_526 : decode code 526 = .ok (.invokestatic 102, 3) := by decide +kernel
theorem d_L_law_529 : decode code 529 = .ok (.istore 5, 2) := by decide +kernel
theorem d_L_law_531 : decode code 531 = .ok (.aload_n 2, 1) := by decide +kernel
theorem d_L_law_532 : decode code 532 = .ok (.aload_n 0, 1) := by decide +kernel
theorem d_L_law_533 : decode code 533 = .ok (.iload 4, 2) := by decide +kernel
theorem d_L_law_535 : decode code 535 = .ok (.iconst 1, 1) := by decide +kernel
theorem d_L_law_536 : decode code 536 = .ok (.iadd, 1) := by decide +kernel
theorem d_L_law_537 : decode code 537 = .ok (.iaload, 1) := by decide +kernel
theorem d_L_law_538 : decode code 538 = .ok (.aload_n 0, 1) := by decide +kernel
theorem d_L_law_539 : decode code 539 = .ok (.iload 4, 2) := by decide +kernel
theorem d_L_law_541 : decode code 541 = .ok (.iconst 2, 1) := by decide +kernel
theorem d_L_law_542 : decode code 542 = .ok (.iadd, 1) := by decide +kernel
theorem d_L_law_543 : decode code 543 = .ok (.iaload, 1) := by decide +kernel
theorem d_L_law_544 : decode code 544 = .ok (.aload_n 0, 1) := by decide +kernel
theorem d_L_law_545 : decode code 545 = .ok (.iload 4, 2) := by decide +kernel
theorem d_L_law_547 : decode code 547 = .ok (.iconst 3, 1) := by decide +kernel
theorem d_L_law_548 : decode code 548 = .ok (.iadd, 1) := by decide +kernel
theorem d_L_law_549 : decode code 549 = .ok (.iaload, 1) := by decide +kernel
theorem d_L_law_550 : decode code 550 = .ok (.aload_n 0, 1) := by decide +kernel
theorem d_L_law_551 : decode code 551 = .ok (.iload 4, 2) := by decide +kernel
theorem d_L_law_553 : decode code 553 = .ok (.iconst 4, 1) := by decide +kernel
theorem d_L_law_554 : decode code 554 = .ok (.iadd, 1) := by decide +kernel
theorem d_L_law_555 : decode code 555 = .ok (.iaload, 1) := by decide +kernel
theorem d_L_law_556 : decode code 556 = .ok (.invokevirtual 105, 3) := by decide +kernel
theorem d_L_law_559 : decode code 559 = .ok (.istore 6, 2) := by decide +kernel
theorem d_L_law_561 : decode code 561 = .ok (.aload_n 2, 1) := by decide +kernel
theorem d_L_law_562 : decode code 562 = .ok (.invokevirtual 83, 3) := by decide +kernel
theorem d_L_law_565 : decode code 565 = .ok (.iload 5, 2) := by decide +kernel
theorem d_L_law_567 : decode code 567 = .ok (.if_icmp .eq 5, 3) := by decide +kernel
theorem d_L_law_570 : decode code 570 = .ok (.iconst 0, 1) := by decide +kernel
theorem d_L_law_571 : decode code 571 = .ok (.ireturn, 1) := by decide +kernel
theorem d_L_law_572 : decode code 572 = .ok (.iload 5, 2) := by decide +kernel
theorem d_L_law_574 : decode code 574 = .ok (.ifCond .ne 15, 3) := by decide +kernel
theorem d_L_law_577 : decode code 577 = .ok (.aload_n 3, 1) := by decide +kernel
theorem d_L_law_578 : decode code 578 = .ok (.iconst 0, 1) := by decide +kernel
theorem d_L_law_579 : decode code 579 = .ok (.laload, 1) := by decide +kernel
theorem d_L_law_580 : decode code 580 = .ok (.iload 6, 2) := by decide +kernel
theorem d_L_law_582 : decode code 582 = .ok (.i2l, 1) := by decide +kernel
theorem d_L_law_583 : decode code 583 = .ok (.lcmp, 1) := by decide +kernel
theorem d_L_law_584 : decode code 584 = .ok (.ifCond .eq 5, 3) := by decide +kernel
theorem d_L_law_587 : decode code 587 = .ok (.iconst 0, 1) := by decide +kernel
theorem d_L_law_588 : decode code 588 = .ok (.ireturn, 1) := by decide +kernel
theorem d_L_law_589 : decode code 589 = .ok (.goto 756, 3) := by decide +kernel
theorem d_L_law_592 : decode code 592 = .ok (.aload_n 1, 1) := by decide +kernel
theorem d_L_law_593 : decode code 593 = .ok (.aload_n 0, 1) := by decide +kernel
theorem d_L_law_594 : decode code 594 = .ok (.iload 4, 2) := by decide +kernel
theorem d_L_law_596 : decode code 596 = .ok (.iconst 1, 1) := by decide +kernel
theorem d_L_law_597 : decode code 597 = .ok (.iadd, 1) := by decide +kernel
theorem d_L_law_598 : decode code 598 = .ok (.iaload, 1) := by decide +kernel
theorem d_L_law_599 : decode code 599 = .ok (.ifCond .eq 7, 3) := by decide +kernel
theorem d_L_law_602 : decode code 602 = .ok (.iconst 1, 1) := by decide +kernel
theorem d_L_law_603 : decode code 603 = .ok (.goto 4, 3) := by decide +kernel
theorem d_L_law_606 : decode code 606 = .ok (.iconst 0, 1) := by decide +kernel
theorem d_L_law_607 : decode code 607 = .ok (.aload_n 0, 1) := by decide +kernel
theorem d_L_law_608 : decode code 608 = .ok (.iload 4, 2) := by decide +kernel
theorem d_L_law_610 : decode code 610 = .ok (.iconst 2, 1) := by decide +kernel
theorem d_L_law_611 : decode code 611 = .ok (.iadd, 1) := by decide +kernel
theorem d_L_law_612 : decode code 612 = .ok (.iaload, 1) := by decide +kernel
theorem d_L_law_613 : decode code 613 = .ok (.aload_n 0, 1) := by decide +kernel
theorem d_L_law_614 : decode code 614 = .ok (.iload 4, 2) := by decide +kernel
theorem d_L_law_616 : decode code 616 = .ok (.iconst 3, 1) := by decide +kernel
theorem d_L_law_617 : decode code 617 = .ok (.iadd, 1) := by decide +kernel
theorem d_L_law_618 : decode code 618 = .ok (.iaload, 1) := by decide +kernel
theorem d_L_law_619 : decode code 619 = .ok (.aload_n 0, 1) := by decide +kernel
theorem d_L_law_620 : decode code 620 = .ok (.iload 4, 2) := by decide +kernel
theorem d_L_law_622 : decode code 622 = .ok (.iconst 4, 1) := by decide +kernel
theorem d_L_law_623 : decode code 623 = .ok (.iadd, 1) := by decide +kernel
theorem d_L_law_624 : decode code 624 = .ok (.iaload, 1) := by decide +kernel
theorem d_L_law_625 : decode code 625 = .ok (.aload_n 0, 1) := by decide +kernel
theorem d_L_law_626 : decode code 626 = .ok (.iload 4, 2) := by decide +kernel
theorem d_L_law_628 : decode code 628 = .ok (.iconst 5, 1) := by decide +kernel
theorem d_L_law_629 : decode code 629 = .ok (.iadd, 1) := by decide +kernel
theorem d_L_law_630 : decode code 630 = .ok (.iaload, 1) := by decide +kernel
theorem d_L_law_631 : decode code 631 = .ok (.aload_n 3, 1) := by decide +kernel
theorem d_L_law_632 : decode code 632 = .ok (.invokestatic 106, 3) := by decide +kernel
theorem d_L_law_635 : decode code 635 = .ok (.istore 5, 2) := by decide +kernel
theorem d_L_law_637 : decode code 637 = .ok (.aload_n 2, 1) := by decide +kernel
theorem d_L_law_638 : decode code 638 = .ok (.aload_n 0, 1) := by decide +kernel
theorem d_L_law_639 : decode code 639 = .ok (.iload 4, 2) := by decide +kernel
theorem d_L_law_641 : decode code 641 = .ok (.iconst 1, 1) := by decide +kernel
theorem d_L_law_642 : decode code 642 = .ok (.iadd, 1) := by decide +kernel
theorem d_L_law_643 : decode code 643 = .ok (.iaload, 1) := by decide +kernel
theorem d_L_law_644 : decode code 644 = .ok (.ifCond .eq 7, 3) := by decide +kernel
theorem d_L_law_647 : decode code 647 = .ok (.iconst 1, 1) := by decide +kernel
theorem d_L_law_648 : decode code 648 = .ok (.goto 4, 3) := by decide +kernel
theorem d_L_law_651 : decode code 651 = .ok (.iconst 0, 1) := by decide +kernel
theorem d_L_law_652 : decode code 652 = .ok (.aload_n 0, 1) := by decide +kernel
theorem d_L_law_653 : decode code 653 = .ok (.iload 4, 2) := by decide +kernel
theorem d_L_law_655 : decode code 655 = .ok (.iconst 2, 1) := by decide +kernel
theorem d_L_law_656 : decode code 656 = .ok (.iadd, 1) := by decide +kernel
theorem d_L_law_657 : decode code 657 = .ok (.iaload, 1) := by decide +kernel
theorem d_L_law_658 : decode code 658 = .ok (.aload_n 0, 1) := by decide +kernel
theorem d_L_law_659 : decode code 659 = .ok (.iload 4, 2) := by decide +kernel
theorem d_L_law_661 : decode code 661 = .ok (.iconst 3, 1) := by decide +kernel
theorem d_L_law_662 : decode code 662 = .ok (.iadd, 1) := by decide +kernel
theorem d_L_law_663 : decode code 663 = .ok (.iaload, 1) := by decide +kernel
theorem d_L_law_664 : decode code 664 = .ok (.aload_n 0, 1) := by decide +kernel
theorem d_L_law_665 : decode code 665 = .ok (.iload 4, 2) := by decide +kernel
theorem d_L_law_667 : decode code 667 = .ok (.iconst 4, 1) := by decide +kernel
theorem d_L_law_668 : decode code 668 = .ok (.iadd, 1) := by decide +kernel
theorem d_L_law_669 : decode code 669 = .ok (.iaload, 1) := by decide +kernel
theorem d_L_law_670 : decode code 670 = .ok (.aload_n 0, 1) := by decide +kernel
theorem d_L_law_671 : decode code 671 = .ok (.iload 4, 2) := by decide +kernel
theorem d_L_law_673 : decode code 673 = .ok (.iconst 5, 1) := by decide +kernel
theorem d_L_law_674 : decode code 674 = .ok (.iadd, 1) := by decide +kernel
theorem d_L_law_675 : decode code 675 = .ok (.iaload, 1) := by decide +kernel
theorem d_L_law_676 : decode code 676 = .ok (.invokevirtual 109, 3) := by decide +kernel
theorem d_L_law_679 : decode code 679 = .ok (.istore 6, 2) := by decide +kernel
theorem d_L_law_681 : decode code 681 = .ok (.aload_n 2, 1) := by decide +kernel
theorem d_L_law_682 : decode code 682 = .ok (.invokevirtual 83, 3) := by decide +kernel
theorem d_L_law_685 : decode code 685 = .ok (.iload 5, 2) := by decide +kernel
theorem d_L_law_687 : decode code 687 = .ok (.if_icmp .eq 5, 3) := by decide +kernel
theorem d_L_law_690 : decode code 690 = .ok (.iconst 0, 1) := by decide +kernel
theorem d_L_law_691 : decode code 691 = .ok (.ireturn, 1) := by decide +kernel
theorem d_L_law_692 : decode code 692 = .ok (.iload 5, 2) := by decide +kernel
theorem d_L_law_694 : decode code 694 = .ok (.ifCond .ne 15, 3) := by decide +kernel
theorem d_L_law_697 : decode code 697 = .ok (.aload_n 3, 1) := by decide +kernel
theorem d_L_law_698 : decode code 698 = .ok (.iconst 0, 1) := by decide +kernel
theorem d_L_law_699 : decode code 699 = .ok (.laload, 1) := by decide +kernel
theorem d_L_law_700 : decode code 700 = .ok (.iload 6, 2) := by decide +kernel
theorem d_L_law_702 : decode code 702 = .ok (.i2l, 1) := by decide +kernel
theorem d_L_law_703 : decode code 703 = .ok (.lcmp, 1) := by decide +kernel
theorem d_L_law_704 : decode code 704 = .ok (.ifCond .eq 5, 3) := by decide +kernel
theorem d_L_law_707 : decode code 707 = .ok (.iconst 0, 1) := by decide +kernel
theorem d_L_law_708 : decode code 708 = .ok (.ireturn, 1) := by decide +kernel
theorem d_L_law_709 : decode code 709 = .ok (.goto 636, 3) := by decide +kernel
theorem d_L_law_712 : decode code 712 = .ok (.aload_n 1, 1) := by decide +kernel
theorem d_L_law_713 : decode code 713 = .ok (.aload_n 0, 1) := by decide +kernel
theorem d_L_law_714 : decode code 714 = .ok (.iload 4, 2) := by decide +kernel
theorem d_L_law_716 : decode code 716 = .ok (.iconst 1, 1) := by decide +kernel
theorem d_L_law_717 : decode code 717 = .ok (.iadd, 1) := by decide +kernel
theorem d_L_law_718 : decode code 718 = .ok (.iaload, 1) := by decide +kernel
theorem d_L_law_719 : decode code 719 = .ok (.aload_n 0, 1) := by decide +kernel
theorem d_L_law_720 : decode code 720 = .ok (.iload 4, 2) := by decide +kernel
theorem d_L_law_722 : decode code 722 = .ok (.iconst 2, 1) := by decide +kernel
theorem d_L_law_723 : decode code 723 = .ok (.iadd, 1) := by decide +kernel
theorem d_L_law_724 : decode code 724 = .ok (.iaload, 1) := by decide +kernel
theorem d_L_law_725 : decode code 725 = .ok (.aload_n 0, 1) := by decide +kernel
theorem d_L_law_726 : decode code 726 = .ok (.iload 4, 2) := by decide +kernel
theorem d_L_law_728 : decode code 728 = .ok (.iconst 3, 1) := by decide +kernel
theorem d_L_law_729 : decode code 729 = .ok (.iadd, 1) := by decide +kernel
theorem d_L_law_730 : decode code 730 = .ok (.iaload, 1) := by decide +kernel
theorem d_L_law_731 : decode code 731 = .ok (.aload_n 3, 1) := by decide +kernel
theorem d_L_law_732 : decode code 732 = .ok (.invokestatic 110, 3) := by decide +kernel
theorem d_L_law_735 : decode code 735 = .ok (.istore 5, 2) := by decide +kernel
theorem d_L_law_737 : decode code 737 = .ok (.aload_n 2, 1) := by decide +kernel
theorem d_L_law_738 : decode code 738 = .ok (.aload_n 0, 1) := by decide +kernel
theorem d_L_law_739 : decode code 739 = .ok (.iload 4, 2) := by decide +kernel
theorem d_L_law_741 : decode code 741 = .ok (.iconst 1, 1) := by decide +kernel
theorem d_L_law_742 : decode code 742 = .ok (.iadd, 1) := by decide +kernel
theorem d_L_law_743 : decode code 743 = .ok (.iaload, 1) := by decide +kernel
theorem d_L_law_744 : decode code 744 = .ok (.aload_n 0, 1) := by decide +kernel
theorem d_L_law_745 : decode code 745 = .ok (.iload 4, 2) := by decide +kernel
theorem d_L_law_747 : decode code 747 = .ok (.iconst 2, 1) := by decide +kernel
theorem d_L_law_748 : decode code 748 = .ok (.iadd, 1) := by decide +kernel
theorem d_L_law_749 : decode code 749 = .ok (.iaload, 1) := by decide +kernel
theorem d_L_law_750 : decode code 750 = .ok (.aload_n 0, 1) := by decide +kernel
theorem d_L_law_751 : decode code 751 = .ok (.iload 4, 2) := by decide +kernel
theorem d_L_law_753 : decode code 753 = .ok (.iconst 3, 1) := by decide +kernel
theorem d_L_law_754 : decode code 754 = .ok (.iadd, 1) := by decide +kernel
theorem d_L_law_755 : decode code 755 = .ok (.iaload, 1) := by decide +kernel
theorem d_L_law_756 : decode code 756 = .ok (.invokevirtual 113, 3) := by decide +kernel
theorem d_L_law_759 : decode code 759 = .ok (.istore 6, 2) := by decide +kernel
theorem d_L_law_761 : decode code 761 = .ok (.aload_n 2, 1) := by decide +kernel
theorem d_L_law_762 : decode code 762 = .ok (.invokevirtual 83, 3) := by decide +kernel
theorem d_L_law_765 : decode code 765 = .ok (.iload 5, 2) := by decide +kernel
theorem d_L_law_767 : decode code 767 = .ok (.if_icmp .eq 5, 3) := by decide +kernel
theorem d_L_law_770 : decode code 770 = .ok (.iconst 0, 1) := by decide +kernel
theorem d_L_law_771 : decode code 771 = .ok (.ireturn, 1) := by decide +kernel
theorem d_L_law_772 : decode code 772 = .ok (.iload 5, 2) := by decide +kernel
theorem d_L_law_774 : decode code 774 = .ok (.ifCond .ne 15, 3) := by decide +kernel
theorem d_L_law_777 : decode code 777 = .ok (.aload_n 3, 1) := by decide +kernel
theorem d_L_law_778 : decode code 778 = .ok (.iconst 0, 1) := by decide +kernel
theorem d_L_law_779 : decode code 779 = .ok (.laload, 1) := by decide +kernel
theorem d_L_law_780 : decode code 780 = .ok (.iload 6, 2) := by decide +kernel
theorem d_L_law_782 : decode code 782 = .ok (.i2l, 1) := by decide +kernel
theorem d_L_law_783 : decode code 783 = .ok (.lcmp, 1) := by decide +kernel
theorem d_L_law_784 : decode code 784 = .ok (.ifCond .eq 5, 3) := by decide +kernel
theorem d_L_law_787 : decode code 787 = .ok (.iconst 0, 1) := by decide +kernel
theorem d_L_law_788 : decode code 788 = .ok (.ireturn, 1) := by decide +kernel
theorem d_L_law_789 : decode code 789 = .ok (.goto 556, 3) := by decide +kernel
theorem d_L_law_792 : decode code 792 = .ok (.aload_n 1, 1) := by decide +kernel
theorem d_L_law_793 : decode code 793 = .ok (.aload_n 0, 1) := by decide +kernel
theorem d_L_law_794 : decode code 794 = .ok (.iload 4, 2) := by decide +kernel
theorem d_L_law_796 : decode code 796 = .ok (.iconst 1, 1) := by decide +kernel
theorem d_L_law_797 : decode code 797 = .ok (.iadd, 1) := by decide +kernel
theorem d_L_law_798 : decode code 798 = .ok (.iaload, 1) := by decide +kernel
theorem d_L_law_799 : decode code 799 = .ok (.aload_n 0, 1) := by decide +kernel
theorem d_L_law_800 : decode code 800 = .ok (.iload 4, 2) := by decide +kernel
theorem d_L_law_802 : decode code 802 = .ok (.iconst 2, 1) := by decide +kernel
theorem d_L_law_803 : decode code 803 = .ok (.iadd, 1) := by decide +kernel
theorem d_L_law_804 : decode code 804 = .ok (.iaload, 1) := by decide +kernel
theorem d_L_law_805 : decode code 805 = .ok (.aload_n 0, 1) := by decide +kernel
theorem d_L_law_806 : decode code 806 = .ok (.iload 4, 2) := by decide +kernel
theorem d_L_law_808 : decode code 808 = .ok (.iconst 3, 1) := by decide +kernel
theorem d_L_law_809 : decode code 809 = .ok (.iadd, 1) := by decide +kernel
theorem d_L_law_810 : decode code 810 = .ok (.iaload, 1) := by decide +kernel
theorem d_L_law_811 : decode code 811 = .ok (.aload_n 0, 1) := by decide +kernel
theorem d_L_law_812 : decode code 812 = .ok (.iload 4, 2) := by decide +kernel
theorem d_L_law_814 : decode code 814 = .ok (.iconst 4, 1) := by decide +kernel
theorem d_L_law_815 : decode code 815 = .ok (.iadd, 1) := by decide +kernel
theorem d_L_law_816 : decode code 816 = .ok (.iaload, 1) := by decide +kernel
theorem d_L_law_817 : decode code 817 = .ok (.aload_n 3, 1) := by decide +kernel
theorem d_L_law_818 : decode code 818 = .ok (.invokestatic 114, 3) := by decide +kernel
theorem d_L_law_821 : decode code 821 = .ok (.istore 5, 2) := by decide +kernel
theorem d_L_law_823 : decode code 823 = .ok (.aload_n 2, 1) := by decide +kernel
theorem d_L_law_824 : decode code 824 = .ok (.aload_n 0, 1) := by decide +kernel
theorem d_L_law_825 : decode code 825 = .ok (.iload 4, 2) := by decide +kernel
theorem d_L_law_827 : decode code 827 = .ok (.iconst 1, 1) := by decide +kernel
theorem d_L_law_828 : decode code 828 = .ok (.iadd, 1) := by decide +kernel
theorem d_L_law_829 : decode code 829 = .ok (.iaload, 1) := by decide +kernel
theorem d_L_law_830 : decode code 830 = .ok (.aload_n 0, 1) := by decide +kernel
theorem d_L_law_831 : decode code 831 = .ok (.iload 4, 2) := by decide +kernel
theorem d_L_law_833 : decode code 833 = .ok (.iconst 2, 1) := by decide +kernel
theorem d_L_law_834 : decode code 834 = .ok (.iadd, 1) := by decide +kernel
theorem d_L_law_835 : decode code 835 = .ok (.iaload, 1) := by decide +kernel
theorem d_L_law_836 : decode code 836 = .ok (.aload_n 0, 1) := by decide +kernel
theorem d_L_law_837 : decode code 837 = .ok (.iload 4, 2) := by decide +kernel
theorem d_L_law_839 : decode code 839 = .ok (.iconst 3, 1) := by decide +kernel
theorem d_L_law_840 : decode code 840 = .ok (.iadd, 1) := by decide +kernel
theorem d_L_law_841 : decode code 841 = .ok (.iaload, 1) := by decide +kernel
theorem d_L_law_842 : decode code 842 = .ok (.aload_n 0, 1) := by decide +kernel
theorem d_L_law_843 : decode code 843 = .ok (.iload 4, 2) := by decide +kernel
theorem d_L_law_845 : decode code 845 = .ok (.iconst 4, 1) := by decide +kernel
theorem d_L_law_846 : decode code 846 = .ok (.iadd, 1) := by decide +kernel
theorem d_L_law_847 : decode code 847 = .ok (.iaload, 1) := by decide +kernel
theorem d_L_law_848 : decode code 848 = .ok (.invokevirtual 116, 3) := by decide +kernel
theorem d_L_law_851 : decode code 851 = .ok (.istore 6, 2) := by decide +kernel
theorem d_L_law_853 : decode code 853 = .ok (.aload_n 2, 1) := by decide +kernel
theorem d_L_law_854 : decode code 854 = .ok (.invokevirtual 83, 3) := by decide +kernel
theorem d_L_law_857 : decode code 857 = .ok (.iload 5, 2) := by decide +kernel
theorem d_L_law_859 : decode code 859 = .ok (.if_icmp .eq 5, 3) := by decide +kernel
theorem d_L_law_862 : decode code 862 = .ok (.iconst 0, 1) := by decide +kernel
theorem d_L_law_863 : decode code 863 = .ok (.ireturn, 1) := by decide +kernel
theorem d_L_law_864 : decode code 864 = .ok (.iload 5, 2) := by decide +kernel
theorem d_L_law_866 : decode code 866 = .ok (.ifCond .ne 15, 3) := by decide +kernel
theorem d_L_law_869 : decode code 869 = .ok (.aload_n 3, 1) := by decide +kernel
theorem d_L_law_870 : decode code 870 = .ok (.iconst 0, 1) := by decide +kernel
theorem d_L_law_871 : decode code 871 = .ok (.laload, 1) := by decide +kernel
theorem d_L_law_872 : decode code 872 = .ok (.iload 6, 2) := by decide +kernel
theorem d_L_law_874 : decode code 874 = .ok (.i2l, 1) := by decide +kernel
theorem d_L_law_875 : decode code 875 = .ok (.lcmp, 1) := by decide +kernel
theorem d_L_law_876 : decode code 876 = .ok (.ifCond .eq 5, 3) := by decide +kernel
theorem d_L_law_879 : decode code 879 = .ok (.iconst 0, 1) := by decide +kernel
theorem d_L_law_880 : decode code 880 = .ok (.ireturn, 1) := by decide +kernel
theorem d_L_law_881 : decode code 881 = .ok (.goto 464, 3) := by decide +kernel
theorem d_L_law_884 : decode code 884 = .ok (.aload_n 1, 1) := by decide +kernel
theorem d_L_law_885 : decode code 885 = .ok (.aload_n 0, 1) := by decide +kernel
theorem d_L_law_886 : decode code 886 = .ok (.iload 4, 2) := by decide +kernel
theorem d_L_law_888 : decode code 888 = .ok (.iconst 1, 1) := by decide +kernel
theorem d_L_law_889 : decode code 889 = .ok (.iadd, 1) := by decide +kernel
theorem d_L_law_890 : decode code 890 = .ok (.iaload, 1) := by decide +kernel
theorem d_L_law_891 : decode code 891 = .ok (.aload_n 0, 1) := by decide +kernel
theorem d_L_law_892 : decode code 892 = .ok (.iload 4, 2) := by decide +kernel
theorem d_L_law_894 : decode code 894 = .ok (.iconst 2, 1) := by decide +kernel
theorem d_L_law_895 : decode code 895 = .ok (.iadd, 1) := by decide +kernel
theorem d_L_law_896 : decode code 896 = .ok (.iaload, 1) := by decide +kernel
theorem d_L_law_897 : decode code 897 = .ok (.aload_n 0, 1) := by decide +kernel
theorem d_L_law_898 : decode code 898 = .ok (.iload 4, 2) := by decide +kernel
theorem d_L_law_900 : decode code 900 = .ok (.iconst 3, 1) := by decide +kernel
theorem d_L_law_901 : decode code 901 = .ok (.iadd, 1) := by decide +kernel
theorem d_L_law_902 : decode code 902 = .ok (.iaload, 1) := by decide +kernel
theorem d_L_law_903 : decode code 903 = .ok (.aload_n 3, 1) := by decide +kernel
theorem d_L_law_904 : decode code 904 = .ok (.invokestatic 117, 3) := by decide +kernel
theorem d_L_law_907 : decode code 907 = .ok (.istore 5, 2) := by decide +kernel
theorem d_L_law_909 : decode code 909 = .ok (.aload_n 2, 1) := by decide +kernel
theorem d_L_law_910 : decode code 910 = .ok (.aload_n 0, 1) := by decide +kernel
theorem d_L_law_911 : decode code 911 = .ok (.iload 4, 2) := by decide +kernel
theorem d_L_law_913 : decode code 913 = .ok (.iconst 1, 1) := by decide +kernel
theorem d_L_law_914 : decode code 914 = .ok (.iadd, 1) := by decide +kernel
theorem d_L_law_915 : decode code 915 = .ok (.iaload, 1) := by decide +kernel
theorem d_L_law_916 : decode code 916 = .ok (.aload_n 0, 1) := by decide +kernel
theorem d_L_law_917 : decode code 917 = .ok (.iload 4, 2) := by decide +kernel
theorem d_L_law_919 : decode code 919 = .ok (.iconst 2, 1) := by decide +kernel
theorem d_L_law_920 : decode code 920 = .ok (.iadd, 1) := by decide +kernel
theorem d_L_law_921 : decode code 921 = .ok (.iaload, 1) := by decide +kernel
theorem d_L_law_922 : decode code 922 = .ok (.aload_n 0, 1) := by decide +kernel
theorem d_L_law_923 : decode code 923 = .ok (.iload 4, 2) := by decide +kernel
theorem d_L_law_925 : decode code 925 = .ok (.iconst 3, 1) := by decide +kernel
theorem d_L_law_926 : decode code 926 = .ok (.iadd, 1) := by decide +kernel
theorem d_L_law_927 : decode code 927 = .ok (.iaload, 1) := by decide +kernel
theorem d_L_law_928 : decode code 928 = .ok (.invokevirtual 119, 3) := by decide +kernel
theorem d_L_law_931 : decode code 931 = .ok (.istore 6, 2) := by decide +kernel
theorem d_L_law_933 : decode code 933 = .ok (.aload_n 2, 1) := by decide +kernel
theorem d_L_law_934 : decode code 934 = .ok (.invokevirtual 83, 3) := by decide +kernel
theorem d_L_law_937 : decode code 937 = .ok (.iload 5, 2) := by decide +kernel
theorem d_L_law_939 : decode code 939 = .ok (.if_icmp .eq 5, 3) := by decide +kernel
theorem d_L_law_942 : decode code 942 = .ok (.iconst 0, 1) := by decide +kernel
theorem d_L_law_943 : decode code 943 = .ok (.ireturn, 1) := by decide +kernel
theorem d_L_law_944 : decode code 944 = .ok (.iload 5, 2) := by decide +kernel
theorem d_L_law_946 : decode code 946 = .ok (.ifCond .ne 15, 3) := by decide +kernel
theorem d_L_law_949 : decode code 949 = .ok (.aload_n 3, 1) := by decide +kernel
theorem d_L_law_950 : decode code 950 = .ok (.iconst 0, 1) := by decide +kernel
theorem d_L_law_951 : decode code 951 = .ok (.laload, 1) := by decide +kernel
theorem d_L_law_952 : decode code 952 = .ok (.iload 6, 2) := by decide +kernel
theorem d_L_law_954 : decode code 954 = .ok (.i2l, 1) := by decide +kernel
theorem d_L_law_955 : decode code 955 = .ok (.lcmp, 1) := by decide +kernel
theorem d_L_law_956 : decode code 956 = .ok (.ifCond .eq 5, 3) := by decide +kernel
theorem d_L_law_959 : decode code 959 = .ok (.iconst 0, 1) := by decide +kernel
theorem d_L_law_960 : decode code 960 = .ok (.ireturn, 1) := by decide +kernel
theorem d_L_law_961 : decode code 961 = .ok (.goto 384, 3) := by decide +kernel
theorem d_L_law_964 : decode code 964 = .ok (.aload_n 1, 1) := by decide +kernel
theorem d_L_law_965 : decode code 965 = .ok (.aload_n 0, 1) := by decide +kernel
theorem d_L_law_966 : decode code 966 = .ok (.iload 4, 2) := by decide +kernel
theorem d_L_law_968 : decode code 968 = .ok (.iconst 1, 1) := by decide +kernel
theorem d_L_law_969 : decode code 969 = .ok (.iadd, 1) := by decide +kernel
theorem d_L_law_970 : decode code 970 = .ok (.iaload, 1) := by decide +kernel
theorem d_L_law_971 : decode code 971 = .ok (.aload_n 0, 1) := by decide +kernel
theorem d_L_law_972 : decode code 972 = .ok (.iload 4, 2) := by decide +kernel
theorem d_L_law_974 : decode code 974 = .ok (.iconst 2, 1) := by decide +kernel
theorem d_L_law_975 : decode code 975 = .ok (.iadd, 1) := by decide +kernel
theorem d_L_law_976 : decode code 976 = .ok (.iaload, 1) := by decide +kernel
theorem d_L_law_977 : decode code 977 = .ok (.aload_n 0, 1) := by decide +kernel
theorem d_L_law_978 : decode code 978 = .ok (.iload 4, 2) := by decide +kernel
theorem d_L_law_980 : decode code 980 = .ok (.iconst 3, 1) := by decide +kernel
theorem d_L_law_981 : decode code 981 = .ok (.iadd, 1) := by decide +kernel
theorem d_L_law_982 : decode code 982 = .ok (.iaload, 1) := by decide +kernel
theorem d_L_law_983 : decode code 983 = .ok (.aload_n 0, 1) := by decide +kernel
theorem d_L_law_984 : decode code 984 = .ok (.iload 4, 2) := by decide +kernel
theorem d_L_law_986 : decode code 986 = .ok (.iconst 4, 1) := by decide +kernel
theorem d_L_law_987 : decode code 987 = .ok (.iadd, 1) := by decide +kernel
theorem d_L_law_988 : decode code 988 = .ok (.iaload, 1) := by decide +kernel
theorem d_L_law_989 : decode code 989 = .ok (.aload_n 3, 1) := by decide +kernel
theorem d_L_law_990 : decode code 990 = .ok (.invokestatic 120, 3) := by decide +kernel
theorem d_L_law_993 : decode code 993 = .ok (.istore 5, 2) := by decide +kernel
theorem d_L_law_995 : decode code 995 = .ok (.aload_n 2, 1) := by decide +kernel
theorem d_L_law_996 : decode code 996 = .ok (.aload_n 0, 1) := by decide +kernel
theorem d_L_law_997 : decode code 997 = .ok (.iload 4, 2) := by decide +kernel
theorem d_L_law_999 : decode code 999 = .ok (.iconst 1, 1) := by decide +kernel
theorem d_L_law_1000 : decode code 1000 = .ok (.iadd, 1) := by decide +kernel
theorem d_L_law_1001 : decode code 1001 = .ok (.iaload, 1) := by decide +kernel
theorem d_L_law_1002 : decode code 1002 = .ok (.aload_n 0, 1) := by decide +kernel
theorem d_L_law_1003 : decode code 1003 = .ok (.iload 4, 2) := by decide +kernel
theorem d_L_law_1005 : decode code 1005 = .ok (.iconst 2, 1) := by decide +kernel
theorem d_L_law_1006 : decode code 1006 = .ok (.iadd, 1) := by decide +kernel
theorem d_L_law_1007 : decode code 1007 = .ok (.iaload, 1) := by decide +kernel
theorem d_L_law_1008 : decode code 1008 = .ok (.aload_n 0, 1) := by decide +kernel
theorem d_L_law_1009 : decode code 1009 = .ok (.iload 4, 2) := by decide +kernel
theorem d_L_law_1011 : decode code 1011 = .ok (.iconst 3, 1) := by decide +kernel
theorem d_L_law_1012 : decode code 1012 = .ok (.iadd, 1) := by decide +kernel
theorem d_L_law_1013 : decode code 1013 = .ok (.iaload, 1) := by decide +kernel
theorem d_L_law_1014 : decode code 1014 = .ok (.aload_n 0, 1) := by decide +kernel
theorem d_L_law_1015 : decode code 1015 = .ok (.iload 4, 2) := by decide +kernel
theorem d_L_law_1017 : decode code 1017 = .ok (.iconst 4, 1) := by decide +kernel
theorem d_L_law_1018 : decode code 1018 = .ok (.iadd, 1) := by decide +kernel
theorem d_L_law_1019 : decode code 1019 = .ok (.iaload, 1) := by decide +kernel
theorem d_L_law_1020 : decode code 1020 = .ok (.invokevirtual 122, 3) := by decide +kernel
theorem d_L_law_1023 : decode code 1023 = .ok (.istore 6, 2) := by decide +kernel
theorem d_L_law_1025 : decode code 1025 = .ok (.aload_n 2, 1) := by decide +kernel
theorem d_L_law_1026 : decode code 1026 = .ok (.invokevirtual 83, 3) := by decide +kernel
theorem d_L_law_1029 : decode code 1029 = .ok (.iload 5, 2) := by decide +kernel
theorem d_L_law_1031 : decode code 1031 = .ok (.if_icmp .eq 5, 3) := by decide +kernel
theorem d_L_law_1034 : decode code 1034 = .ok (.iconst 0, 1) := by decide +kernel
theorem d_L_law_1035 : decode code 1035 = .ok (.ireturn, 1) := by decide +kernel
theorem d_L_law_1036 : decode code 1036 = .ok (.iload 5, 2) := by decide +kernel
theorem d_L_law_1038 : decode code 1038 = .ok (.ifCond .ne 15, 3) := by decide +kernel
theorem d_L_law_1041 : decode code 1041 = .ok (.aload_n 3, 1) := by decide +kernel
theorem d_L_law_1042 : decode code 1042 = .ok (.iconst 0, 1) := by decide +kernel
theorem d_L_law_1043 : decode code 1043 = .ok (.laload, 1) := by decide +kernel
theorem d_L_law_1044 : decode code 1044 = .ok (.iload 6, 2) := by decide +kernel
theorem d_L_law_1046 : decode code 1046 = .ok (.i2l, 1) := by decide +kernel
theorem d_L_law_1047 : decode code 1047 = .ok (.lcmp, 1) := by decide +kernel
theorem d_L_law_1048 : decode code 1048 = .ok (.ifCond .eq 5, 3) := by decide +kernel
theorem d_L_law_1051 : decode code 1051 = .ok (.iconst 0, 1) := by decide +kernel
theorem d_L_law_1052 : decode code 1052 = .ok (.ireturn, 1) := by decide +kernel
theorem d_L_law_1053 : decode code 1053 = .ok (.goto 292, 3) := by decide +kernel
theorem d_L_law_1056 : decode code 1056 = .ok (.aload_n 1, 1) := by decide +kernel
theorem d_L_law_1057 : decode code 1057 = .ok (.aload_n 0, 1) := by decide +kernel
theorem d_L_law_1058 : decode code 1058 = .ok (.iload 4, 2) := by decide +kernel
theorem d_L_law_1060 : decode code 1060 = .ok (.iconst 1, 1) := by decide +kernel
theorem d_L_law_1061 : decode code 1061 = .ok (.iadd, 1) := by decide +kernel
theorem d_L_law_1062 : decode code 1062 = .ok (.iaload, 1) := by decide +kernel
theorem d_L_law_1063 : decode code 1063 = .ok (.aload_n 0, 1) := by decide +kernel
theorem d_L_law_1064 : decode code 1064 = .ok (.iload 4, 2) := by decide +kernel
theorem d_L_law_1066 : decode code 1066 = .ok (.iconst 2, 1) := by decide +kernel
theorem d_L_law_1067 : decode code 1067 = .ok (.iadd, 1) := by decide +kernel
theorem d_L_law_1068 : decode code 1068 = .ok (.iaload, 1) := by decide +kernel
theorem d_L_law_1069 : decode code 1069 = .ok (.aload_n 3, 1) := by decide +kernel
theorem d_L_law_1070 : decode code 1070 = .ok (.invokestatic 123, 3) := by decide +kernel
theorem d_L_law_1073 : decode code 1073 = .ok (.istore 5, 2) := by decide +kernel
theorem d_L_law_1075 : decode code 1075 = .ok (.aload_n 2, 1) := by decide +kernel
theorem d_L_law_1076 : decode code 1076 = .ok (.aload_n 0, 1) := by decide +kernel
theorem d_L_law_1077 : decode code 1077 = .ok (.iload 4, 2) := by decide +kernel
theorem d_L_law_1079 : decode code 1079 = .ok (.iconst 1, 1) := by decide +kernel
theorem d_L_law_1080 : decode code 1080 = .ok (.iadd, 1) := by decide +kernel
theorem d_L_law_1081 : decode code 1081 = .ok (.iaload, 1) := by decide +kernel
theorem d_L_law_1082 : decode code 1082 = .ok (.aload_n 0, 1) := by decide +kernel
theorem d_L_law_1083 : decode code 1083 = .ok (.iload 4, 2) := by decide +kernel
theorem d_L_law_1085 : decode code 1085 = .ok (.iconst 2, 1) := by decide +kernel
theorem d_L_law_1086 : decode code 1086 = .ok (.iadd, 1) := by decide +kernel
theorem d_L_law_1087 : decode code 1087 = .ok (.iaload, 1) := by decide +kernel
theorem d_L_law_1088 : decode code 1088 = .ok (.invokevirtual 125, 3) := by decide +kernel
theorem d_L_law_1091 : decode code 1091 = .ok (.istore 6, 2) := by decide +kernel
theorem d_L_law_1093 : decode code 1093 = .ok (.aload_n 2, 1) := by decide +kernel
theorem d_L_law_1094 : decode code 1094 = .ok (.invokevirtual 83, 3) := by decide +kernel
theorem d_L_law_1097 : decode code 1097 = .ok (.iload 5, 2) := by decide +kernel
theorem d_L_law_1099 : decode code 1099 = .ok (.if_icmp .eq 5, 3) := by decide +kernel
theorem d_L_law_1102 : decode code 1102 = .ok (.iconst 0, 1) := by decide +kernel
theorem d_L_law_1103 : decode code 1103 = .ok (.ireturn, 1) := by decide +kernel
theorem d_L_law_1104 : decode code 1104 = .ok (.iload 5, 2) := by decide +kernel
theorem d_L_law_1106 : decode code 1106 = .ok (.ifCond .ne 15, 3) := by decide +kernel
theorem d_L_law_1109 : decode code 1109 = .ok (.aload_n 3, 1) := by decide +kernel
theorem d_L_law_1110 : decode code 1110 = .ok (.iconst 0, 1) := by decide +kernel
theorem d_L_law_1111 : decode code 1111 = .ok (.laload, 1) := by decide +kernel
theorem d_L_law_1112 : decode code 1112 = .ok (.iload 6, 2) := by decide +kernel
theorem d_L_law_1114 : decode code 1114 = .ok (.i2l, 1) := by decide +kernel
theorem d_L_law_1115 : decode code 1115 = .ok (.lcmp, 1) := by decide +kernel
theorem d_L_law_1116 : decode code 1116 = .ok (.ifCond .eq 5, 3) := by decide +kernel
theorem d_L_law_1119 : decode code 1119 = .ok (.iconst 0, 1) := by decide +kernel
theorem d_L_law_1120 : decode code 1120 = .ok (.ireturn, 1) := by decide +kernel
theorem d_L_law_1121 : decode code 1121 = .ok (.goto 224, 3) := by decide +kernel
theorem d_L_law_1124 : decode code 1124 = .ok (.aload_n 1, 1) := by decide +kernel
theorem d_L_law_1125 : decode code 1125 = .ok (.aload_n 0, 1) := by decide +kernel
theorem d_L_law_1126 : decode code 1126 = .ok (.iload 4, 2) := by decide +kernel
theorem d_L_law_1128 : decode code 1128 = .ok (.iconst 1, 1) := by decide +kernel
theorem d_L_law_1129 : decode code 1129 = .ok (.iadd, 1) := by decide +kernel
theorem d_L_law_1130 : decode code 1130 = .ok (.iaload, 1) := by decide +kernel
theorem d_L_law_1131 : decode code 1131 = .ok (.aload_n 3, 1) := by decide +kernel
theorem d_L_law_1132 : decode code 1132 = .ok (.invokestatic 126, 3) := by decide +kernel
theorem d_L_law_1135 : decode code 1135 = .ok (.istore 5, 2) := by decide +kernel
theorem d_L_law_1137 : decode code 1137 = .ok (.aload_n 2, 1) := by decide +kernel
theorem d_L_law_1138 : decode code 1138 = .ok (.aload_n 0, 1) := by decide +kernel
theorem d_L_law_1139 : decode code 1139 = .ok (.iload 4, 2) := by decide +kernel
theorem d_L_law_1141 : decode code 1141 = .ok (.iconst 1, 1) := by decide +kernel
theorem d_L_law_1142 : decode code 1142 = .ok (.iadd, 1) := by decide +kernel
theorem d_L_law_1143 : decode code 1143 = .ok (.iaload, 1) := by decide +kernel
theorem d_L_law_1144 : decode code 1144 = .ok (.invokevirtual 128, 3) := by decide +kernel
theorem d_L_law_1147 : decode code 1147 = .ok (.lstore 6, 2) := by decide +kernel
theorem d_L_law_1149 : decode code 1149 = .ok (.aload_n 2, 1) := by decide +kernel
theorem d_L_law_1150 : decode code 1150 = .ok (.invokevirtual 83, 3) := by decide +kernel
theorem d_L_law_1153 : decode code 1153 = .ok (.iload 5, 2) := by decide +kernel
theorem d_L_law_1155 : decode code 1155 = .ok (.if_icmp .eq 5, 3) := by decide +kernel
theorem d_L_law_1158 : decode code 1158 = .ok (.iconst 0, 1) := by decide +kernel
theorem d_L_law_1159 : decode code 1159 = .ok (.ireturn, 1) := by decide +kernel
theorem d_L_law_1160 : decode code 1160 = .ok (.iload 5, 2) := by decide +kernel
theorem d_L_law_1162 : decode code 1162 = .ok (.ifCond .ne 14, 3) := by decide +kernel
theorem d_L_law_1165 : decode code 1165 = .ok (.aload_n 3, 1) := by decide +kernel
theorem d_L_law_1166 : decode code 1166 = .ok (.iconst 0, 1) := by decide +kernel
theorem d_L_law_1167 : decode code 1167 = .ok (.laload, 1) := by decide +kernel
theorem d_L_law_1168 : decode code 1168 = .ok (.lload 6, 2) := by decide +kernel
theorem d_L_law_1170 : decode code 1170 = .ok (.lcmp, 1) := by decide +kernel
theorem d_L_law_1171 : decode code 1171 = .ok (.ifCond .eq 5, 3) := by decide +kernel
theorem d_L_law_1174 : decode code 1174 = .ok (.iconst 0, 1) := by decide +kernel
theorem d_L_law_1175 : decode code 1175 = .ok (.ireturn, 1) := by decide +kernel
theorem d_L_law_1176 : decode code 1176 = .ok (.goto 169, 3) := by decide +kernel
theorem d_L_law_1179 : decode code 1179 = .ok (.aload_n 1, 1) := by decide +kernel
theorem d_L_law_1180 : decode code 1180 = .ok (.aload_n 0, 1) := by decide +kernel
theorem d_L_law_1181 : decode code 1181 = .ok (.iload 4, 2) := by decide +kernel
theorem d_L_law_1183 : decode code 1183 = .ok (.iconst 1, 1) := by decide +kernel
theorem d_L_law_1184 : decode code 1184 = .ok (.iadd, 1) := by decide +kernel
theorem d_L_law_1185 : decode code 1185 = .ok (.iaload, 1) := by decide +kernel
theorem d_L_law_1186 : decode code 1186 = .ok (.aload_n 3, 1) := by decide +kernel
theorem d_L_law_1187 : decode code 1187 = .ok (.invokestatic 129, 3) := by decide +kernel
theorem d_L_law_1190 : decode code 1190 = .ok (.istore 5, 2) := by decide +kernel
theorem d_L_law_1192 : decode code 1192 = .ok (.aload_n 2, 1) := by decide +kernel
theorem d_L_law_1193 : decode code 1193 = .ok (.aload_n 0, 1) := by decide +kernel
theorem d_L_law_1194 : decode code 1194 = .ok (.iload 4, 2) := by decide +kernel
theorem d_L_law_1196 : decode code 1196 = .ok (.iconst 1, 1) := by decide +kernel
theorem d_L_law_1197 : decode code 1197 = .ok (.iadd, 1) := by decide +kernel
theorem d_L_law_1198 : decode code 1198 = .ok (.iaload, 1) := by decide +kernel
theorem d_L_law_1199 : decode code 1199 = .ok (.invokevirtual 131, 3) := by decide +kernel
theorem d_L_law_1202 : decode code 1202 = .ok (.lstore 6, 2) := by decide +kernel
theorem d_L_law_1204 : decode code 1204 = .ok (.aload_n 2, 1) := by decide +kernel
theorem d_L_law_1205 : decode code 1205 = .ok (.invokevirtual 83, 3) := by decide +kernel
theorem d_L_law_1208 : decode code 1208 = .ok (.iload 5, 2) := by decide +kernel
theorem d_L_law_1210 : decode code 1210 = .ok (.if_icmp .eq 5, 3) := by decide +kernel
theorem d_L_law_1213 : decode code 1213 = .ok (.iconst 0, 1) := by decide +kernel
theorem d_L_law_1214 : decode code 1214 = .ok (.ireturn, 1) := by decide +kernel
theorem d_L_law_1215 : decode code 1215 = .ok (.iload 5, 2) := by decide +kernel
theorem d_L_law_1217 : decode code 1217 = .ok (.ifCond .ne 14, 3) := by decide +kernel
theorem d_L_law_1220 : decode code 1220 = .ok (.aload_n 3, 1) := by decide +kernel
theorem d_L_law_1221 : decode code 1221 = .ok (.iconst 0, 1) := by decide +kernel
theorem d_L_law_1222 : decode code 1222 = .ok (.laload, 1) := by decide +kernel
theorem d_L_law_1223 : decode code 1223 = .ok (.lload 6, 2) := by decide +kernel
theorem d_L_law_1225 : decode code 1225 = .ok (.lcmp, 1) := by decide +kernel
theorem d_L_law_1226 : decode code 1226 = .ok (.ifCond .eq 5, 3) := by decide +kernel
theorem d_L_law_1229 : decode code 1229 = .ok (.iconst 0, 1) := by decide +kernel
theorem d_L_law_1230 : decode code 1230 = .ok (.ireturn, 1) := by decide +kernel
theorem d_L_law_1231 : decode code 1231 = .ok (.goto 114, 3) := by decide +kernel
theorem d_L_law_1234 : decode code 1234 = .ok (.aload_n 1, 1) := by decide +kernel
theorem d_L_law_1235 : decode code 1235 = .ok (.aload_n 0, 1) := by decide +kernel
theorem d_L_law_1236 : decode code 1236 = .ok (.iload 4, 2) := by decide +kernel
theorem d_L_law_1238 : decode code 1238 = .ok (.iconst 1, 1) := by decide +kernel
theorem d_L_law_1239 : decode code 1239 = .ok (.iadd, 1) := by decide +kernel
theorem d_L_law_1240 : decode code 1240 = .ok (.iaload, 1) := by decide +kernel
theorem d_L_law_1241 : decode code 1241 = .ok (.aload_n 3, 1) := by decide +kernel
theorem d_L_law_1242 : decode code 1242 = .ok (.invokestatic 132, 3) := by decide +kernel
theorem d_L_law_1245 : decode code 1245 = .ok (.istore 5, 2) := by decide +kernel
theorem d_L_law_1247 : decode code 1247 = .ok (.aload_n 2, 1) := by decide +kernel
theorem d_L_law_1248 : decode code 1248 = .ok (.aload_n 0, 1) := by decide +kernel
theorem d_L_law_1249 : decode code 1249 = .ok (.iload 4, 2) := by decide +kernel
theorem d_L_law_1251 : decode code 1251 = .ok (.iconst 1, 1) := by decide +kernel
theorem d_L_law_1252 : decode code 1252 = .ok (.iadd, 1) := by decide +kernel
theorem d_L_law_1253 : decode code 1253 = .ok (.iaload, 1) := by decide +kernel
theorem d_L_law_1254 : decode code 1254 = .ok (.invokevirtual 134, 3) := by decide +kernel
theorem d_L_law_1257 : decode code 1257 = .ok (.lstore 6, 2) := by decide +kernel
theorem d_L_law_1259 : decode code 1259 = .ok (.aload_n 2, 1) := by decide +kernel
theorem d_L_law_1260 : decode code 1260 = .ok (.invokevirtual 83, 3) := by decide +kernel
theorem d_L_law_1263 : decode code 1263 = .ok (.iload 5, 2) := by decide +kernel
theorem d_L_law_1265 : decode code 1265 = .ok (.if_icmp .eq 5, 3) := by decide +kernel
theorem d_L_law_1268 : decode code 1268 = .ok (.iconst 0, 1) := by decide +kernel
theorem d_L_law_1269 : decode code 1269 = .ok (.ireturn, 1) := by decide +kernel
theorem d_L_law_1270 : decode code 1270 = .ok (.iload 5, 2) := by decide +kernel
theorem d_L_law_1272 : decode code 1272 = .ok (.ifCond .ne 14, 3) := by decide +kernel
theorem d_L_law_1275 : decode code 1275 = .ok (.aload_n 3, 1) := by decide +kernel
theorem d_L_law_1276 : decode code 1276 = .ok (.iconst 0, 1) := by decide +kernel
theorem d_L_law_1277 : decode code 1277 = .ok (.laload, 1) := by decide +kernel
theorem d_L_law_1278 : decode code 1278 = .ok (.lload 6, 2) := by decide +kernel
theorem d_L_law_1280 : decode code 1280 = .ok (.lcmp, 1) := by decide +kernel
theorem d_L_law_1281 : decode code 1281 = .ok (.ifCond .eq 5, 3) := by decide +kernel
theorem d_L_law_1284 : decode code 1284 = .ok (.iconst 0, 1) := by decide +kernel
theorem d_L_law_1285 : decode code 1285 = .ok (.ireturn, 1) := by decide +kernel
theorem d_L_law_1286 : decode code 1286 = .ok (.goto 59, 3) := by decide +kernel
theorem d_L_law_1289 : decode code 1289 = .ok (.aload_n 1, 1) := by decide +kernel
theorem d_L_law_1290 : decode code 1290 = .ok (.aload_n 0, 1) := by decide +kernel
theorem d_L_law_1291 : decode code 1291 = .ok (.iload 4, 2) := by decide +kernel
theorem d_L_law_1293 : decode code 1293 = .ok (.iconst 1, 1) := by decide +kernel
theorem d_L_law_1294 : decode code 1294 = .ok (.iadd, 1) := by decide +kernel
theorem d_L_law_1295 : decode code 1295 = .ok (.iaload, 1) := by decide +kernel
theorem d_L_law_1296 : decode code 1296 = .ok (.aload_n 3, 1) := by decide +kernel
theorem d_L_law_1297 : decode code 1297 = .ok (.invokestatic 135, 3) := by decide +kernel
theorem d_L_law_1300 : decode code 1300 = .ok (.istore 5, 2) := by decide +kernel
theorem d_L_law_1302 : decode code 1302 = .ok (.aload_n 2, 1) := by decide +kernel
theorem d_L_law_1303 : decode code 1303 = .ok (.aload_n 0, 1) := by decide +kernel
theorem d_L_law_1304 : decode code 1304 = .ok (.iload 4, 2) := by decide +kernel
theorem d_L_law_1306 : decode code 1306 = .ok (.iconst 1, 1) := by decide +kernel
theorem d_L_law_1307 : decode code 1307 = .ok (.iadd, 1) := by decide +kernel
theorem d_L_law_1308 : decode code 1308 = .ok (.iaload, 1) := by decide +kernel
theorem d_L_law_1309 : decode code 1309 = .ok (.invokevirtual 137, 3) := by decide +kernel
theorem d_L_law_1312 : decode code 1312 = .ok (.istore 6, 2) := by decide +kernel
theorem d_L_law_1314 : decode code 1314 = .ok (.aload_n 2, 1) := by decide +kernel
theorem d_L_law_1315 : decode code 1315 = .ok (.invokevirtual 83, 3) := by decide +kernel
theorem d_L_law_1318 : decode code 1318 = .ok (.iload 5, 2) := by decide +kernel
theorem d_L_law_1320 : decode code 1320 = .ok (.if_icmp .eq 5, 3) := by decide +kernel
theorem d_L_law_1323 : decode code 1323 = .ok (.iconst 0, 1) := by decide +kernel
theorem d_L_law_1324 : decode code 1324 = .ok (.ireturn, 1) := by decide +kernel
theorem d_L_law_1325 : decode code 1325 = .ok (.iload 5, 2) := by decide +kernel
theorem d_L_law_1327 : decode code 1327 = .ok (.ifCond .ne 15, 3) := by decide +kernel
theorem d_L_law_1330 : decode code 1330 = .ok (.aload_n 3, 1) := by decide +kernel
theorem d_L_law_1331 : decode code 1331 = .ok (.iconst 0, 1) := by decide +kernel
theorem d_L_law_1332 : decode code 1332 = .ok (.laload, 1) := by decide +kernel
theorem d_L_law_1333 : decode code 1333 = .ok (.iload 6, 2) := by decide +kernel
theorem d_L_law_1335 : decode code 1335 = .ok (.i2l, 1) := by decide +kernel
theorem d_L_law_1336 : decode code 1336 = .ok (.lcmp, 1) := by decide +kernel
theorem d_L_law_1337 : decode code 1337 = .ok (.ifCond .eq 5, 3) := by decide +kernel
theorem d_L_law_1340 : decode code 1340 = .ok (.iconst 0, 1) := by decide +kernel
theorem d_L_law_1341 : decode code 1341 = .ok (.ireturn, 1) := by decide +kernel
theorem d_L_law_1342 : decode code 1342 = .ok (.goto 3, 3) := by decide +kernel
theorem d_L_law_1345 : decode code 1345 = .ok (.iinc 4 6, 3) := by decide +kernel
theorem d_L_law_1348 : decode code 1348 = .ok (.goto (-1325), 3) := by decide +kernel
theorem d_L_law_1351 : decode code 1351 = .ok (.iconst 1, 1) := by decide +kernel
theorem d_L_law_1352 : decode code 1352 = .ok (.ireturn, 1) := by decide +kernel
theorem lq_c8 : (.classLink R_L 8 R_K : Cond) ∈ gw_WS := gw_r1 18 (by decide +kernel) (by decide +kernel)
theorem lq_c72 : (.classLink R_L 72 R_M : Cond) ∈ gw_WS := gw_r3 156 (by decide +kernel) (by decide +kernel)
theorem lq_m71 : (.methodLink R_L 71 y_K_init : Cond) ∈ gw_WS := gw_r1 20 (by decide +kernel) (by decide +kernel)
theorem lq_m74 : (.methodLink R_L 74 y_M_init : Cond) ∈ gw_WS := gw_r3 158 (by decide +kernel) (by decide +kernel)
theorem lq_75 : (.constantLong R_L 75 (4294967295 : Int64) : Cond) ∈ gw_WS := gw_r4 110 (by decide +kernel) (by decide +kernel)
theorem lq_ini : (.initialized R_L : Cond) ∈ gw_WS := gw_r1 0 (by decide +kernel) (by decide +kernel)
theorem lq_m83 : (.methodLink R_L 83 y_M_thrown : Cond) ∈ gw_WS := gw_r3 211 (by decide +kernel) (by decide +kernel)
theorem lq_l_set : (.methodLink R_L 77 y_L_set : Cond) ∈ gw_WS := gw_r1 108 (by decide +kernel) (by decide +kernel)
theorem lq_s_set : (.static y_L_set : Cond) ∈ gw_WS := gw_r1 109 (by decide +kernel) (by decide +kernel)
theorem lq_w_set : (.codeWith y_L_set b_L_set 6 (some .int) hh_L_set : Cond) ∈ gw_WS := gw_r1 110 (by rfl) (by rfl)
theorem lq_m_set : (.methodLink R_L 82 y_M_set : Cond) ∈ gw_WS := gw_r3 215 (by decide +kernel) (by decide +kernel)
theorem lq_l_line : (.methodLink R_L 87 y_L_line : Cond) ∈ gw_WS := gw_r1 209 (by decide +kernel) (by decide +kernel)
theorem lq_s_line : (.static y_L_line : Cond) ∈ gw_WS := gw_r1 210 (by decide +kernel) (by decide +kernel)
theorem lq_w_line : (.codeWith y_L_line b_L_line 5 (some .int) hh_L_line : Cond) ∈ gw_WS := gw_r1 211 (by rfl) (by rfl)
theorem lq_m_line : (.methodLink R_L 90 y_M_line : Cond) ∈ gw_WS := gw_r4 8 (by decide +kernel) (by decide +kernel)
theorem lq_l_read : (.methodLink R_L 91 y_L_read : Cond) ∈ gw_WS := gw_r2 8 (by decide +kernel) (by decide +kernel)
theorem lq_s_read : (.static y_L_read : Cond) ∈ gw_WS := gw_r2 9 (by decide +kernel) (by decide +kernel)
theorem lq_w_read : (.codeWith y_L_read b_L_read 5 (some .int) hh_L_read : Cond) ∈ gw_WS := gw_r2 10 (by rfl) (by rfl)
theorem lq_m_read : (.methodLink R_L 94 y_M_read : Cond) ∈ gw_WS := gw_r4 13 (by decide +kernel) (by decide +kernel)
theorem lq_l_show : (.methodLink R_L 95 y_L_show : Cond) ∈ gw_WS := gw_r2 72 (by decide +kernel) (by decide +kernel)
theorem lq_s_show : (.static y_L_show : Cond) ∈ gw_WS := gw_r2 73 (by decide +kernel) (by decide +kernel)
theorem lq_w_show : (.codeWith y_L_show b_L_show 5 (some .int) hh_L_show : Cond) ∈ gw_WS := gw_r2 74 (by rfl) (by rfl)
theorem lq_m_show : (.methodLink R_L 97 y_M_show : Cond) ∈ gw_WS := gw_r4 23 (by decide +kernel) (by decide +kernel)
theorem lq_l_letter : (.methodLink R_L 98 y_L_letter : Cond) ∈ gw_WS := gw_r2 143 (by decide +kernel) (by decide +kernel)
theorem lq_s_letter : (.static y_L_letter : Cond) ∈ gw_WS := gw_r2 144 (by decide +kernel) (by decide +kernel)
theorem lq_w_letter : (.codeWith y_L_letter b_L_letter 4 (some .int) hh_L_letter : Cond) ∈ gw_WS := gw_r2 145 (by rfl) (by rfl)
theorem lq_m_letter : (.methodLink R_L 101 y_M_letter : Cond) ∈ gw_WS := gw_r4 27 (by decide +kernel) (by decide +kernel)
theorem lq_l_work : (.methodLink R_L 102 y_L_work : Cond) ∈ gw_WS := gw_r2 151 (by decide +kernel) (by decide +kernel)
theorem lq_s_work : (.static y_L_work : Cond) ∈ gw_WS := gw_r2 152 (by decide +kernel) (by decide +kernel)
theorem lq_w_work : (.codeWith y_L_work b_L_work 7 (some .int) hh_L_work : Cond) ∈ gw_WS := gw_r2 153 (by rfl) (by rfl)
theorem lq_m_work : (.methodLink R_L 105 y_M_work : Cond) ∈ gw_WS := gw_r4 31 (by decide +kernel) (by decide +kernel)
theorem lq_l_divide : (.methodLink R_L 106 y_L_divide : Cond) ∈ gw_WS := gw_r2 201 (by decide +kernel) (by decide +kernel)
theorem lq_s_divide : (.static y_L_divide : Cond) ∈ gw_WS := gw_r2 202 (by decide +kernel) (by decide +kernel)
theorem lq_w_divide : (.codeWith y_L_divide b_L_divide 8 (some .int) hh_L_divide : Cond) ∈ gw_WS := gw_r2 203 (by rfl) (by rfl)
theorem lq_m_divide : (.methodLink R_L 109 y_M_divide : Cond) ∈ gw_WS := gw_r4 48 (by decide +kernel) (by decide +kernel)
theorem lq_l_shift : (.methodLink R_L 110 y_L_shift : Cond) ∈ gw_WS := gw_r3 23 (by decide +kernel) (by decide +kernel)
theorem lq_s_shift : (.static y_L_shift : Cond) ∈ gw_WS := gw_r3 24 (by decide +kernel) (by decide +kernel)
theorem lq_w_shift : (.codeWith y_L_shift b_L_shift 6 (some .int) hh_L_shift : Cond) ∈ gw_WS := gw_r3 25 (by rfl) (by rfl)
theorem lq_m_shift : (.methodLink R_L 113 y_M_shift : Cond) ∈ gw_WS := gw_r4 57 (by decide +kernel) (by decide +kernel)
theorem lq_l_bits : (.methodLink R_L 114 y_L_bits : Cond) ∈ gw_WS := gw_r3 49 (by decide +kernel) (by decide +kernel)
theorem lq_s_bits : (.static y_L_bits : Cond) ∈ gw_WS := gw_r3 50 (by decide +kernel) (by decide +kernel)
theorem lq_w_bits : (.codeWith y_L_bits b_L_bits 7 (some .int) hh_L_bits : Cond) ∈ gw_WS := gw_r3 51 (by rfl) (by rfl)
theorem lq_m_bits : (.methodLink R_L 116 y_M_bits2 : Cond) ∈ gw_WS := gw_r4 67 (by decide +kernel) (by decide +kernel)
theorem lq_l_power : (.methodLink R_L 117 y_L_power : Cond) ∈ gw_WS := gw_r3 67 (by decide +kernel) (by decide +kernel)
theorem lq_s_power : (.static y_L_power : Cond) ∈ gw_WS := gw_r3 68 (by decide +kernel) (by decide +kernel)
theorem lq_w_power : (.codeWith y_L_power b_L_power 6 (some .int) hh_L_power : Cond) ∈ gw_WS := gw_r3 69 (by rfl) (by rfl)
theorem lq_m_power : (.methodLink R_L 119 y_M_power : Cond) ∈ gw_WS := gw_r4 74 (by decide +kernel) (by decide +kernel)
theorem lq_l_residue : (.methodLink R_L 120 y_L_residue : Cond) ∈ gw_WS := gw_r3 79 (by decide +kernel) (by decide +kernel)
theorem lq_s_residue : (.static y_L_residue : Cond) ∈ gw_WS := gw_r3 80 (by decide +kernel) (by decide +kernel)
theorem lq_w_residue : (.codeWith y_L_residue b_L_residue 7 (some .int) hh_L_residue : Cond) ∈ gw_WS := gw_r3 81 (by rfl) (by rfl)
theorem lq_m_residue : (.methodLink R_L 122 y_M_residue : Cond) ∈ gw_WS := gw_r4 79 (by decide +kernel) (by decide +kernel)
theorem lq_l_compare : (.methodLink R_L 123 y_L_compare : Cond) ∈ gw_WS := gw_r3 100 (by decide +kernel) (by decide +kernel)
theorem lq_s_compare : (.static y_L_compare : Cond) ∈ gw_WS := gw_r3 101 (by decide +kernel) (by decide +kernel)
theorem lq_w_compare : (.codeWith y_L_compare b_L_compare 5 (some .int) hh_L_compare : Cond) ∈ gw_WS := gw_r3 102 (by rfl) (by rfl)
theorem lq_m_compare : (.methodLink R_L 125 y_M_compare : Cond) ∈ gw_WS := gw_r4 83 (by decide +kernel) (by decide +kernel)
theorem lq_l_small : (.methodLink R_L 126 y_L_small : Cond) ∈ gw_WS := gw_r3 112 (by decide +kernel) (by decide +kernel)
theorem lq_s_small : (.static y_L_small : Cond) ∈ gw_WS := gw_r3 113 (by decide +kernel) (by decide +kernel)
theorem lq_w_small : (.codeWith y_L_small b_L_small 4 (some .int) hh_L_small : Cond) ∈ gw_WS := gw_r3 114 (by rfl) (by rfl)
theorem lq_m_small : (.methodLink R_L 128 y_M_small : Cond) ∈ gw_WS := gw_r4 87 (by decide +kernel) (by decide +kernel)
theorem lq_l_low : (.methodLink R_L 129 y_L_low : Cond) ∈ gw_WS := gw_r3 130 (by decide +kernel) (by decide +kernel)
theorem lq_s_low : (.static y_L_low : Cond) ∈ gw_WS := gw_r3 131 (by decide +kernel) (by decide +kernel)
theorem lq_w_low : (.codeWith y_L_low b_L_low 4 (some .int) hh_L_low : Cond) ∈ gw_WS := gw_r3 132 (by rfl) (by rfl)
theorem lq_m_low : (.methodLink R_L 131 y_M_low : Cond) ∈ gw_WS := gw_r4 96 (by decide +kernel) (by decide +kernel)
theorem lq_l_folded : (.methodLink R_L 132 y_L_folded : Cond) ∈ gw_WS := gw_r3 137 (by decide +kernel) (by decide +kernel)
theorem lq_s_folded : (.static y_L_folded : Cond) ∈ gw_WS := gw_r3 138 (by decide +kernel) (by decide +kernel)
theorem lq_w_folded : (.codeWith y_L_folded b_L_folded 4 (some .int) hh_L_folded : Cond) ∈ gw_WS := gw_r3 139 (by rfl) (by rfl)
theorem lq_m_folded : (.methodLink R_L 134 y_M_folded : Cond) ∈ gw_WS := gw_r4 100 (by decide +kernel) (by decide +kernel)
theorem lq_l_size : (.methodLink R_L 135 y_L_size : Cond) ∈ gw_WS := gw_r3 149 (by decide +kernel) (by decide +kernel)
theorem lq_s_size : (.static y_L_size : Cond) ∈ gw_WS := gw_r3 150 (by decide +kernel) (by decide +kernel)
theorem lq_w_size : (.codeWith y_L_size b_L_size 4 (some .int) hh_L_size : Cond) ∈ gw_WS := gw_r3 151 (by rfl) (by rfl)
theorem lq_m_size : (.methodLink R_L 137 y_M_size : Cond) ∈ gw_WS := gw_r4 106 (by decide +kernel) (by decide +kernel)
def lc_set (K : Nat → Nat) (Inv : gm_M → gm_M → lm_M → Prop) : Prop := ∀ (p1 : Int32) (p2 : Int64) (F A : gm_M) (L : lm_M), Inv F A L → vc_L_set K p1 p2 L F A (fun (k : Int32) (F1 A1 : gm_M) (L1 : lm_M) => vc_M_set K p1 p2 F1 A1 (fun (r : Int32) (F2 A2 : gm_M) => F2 (K 49) 0 = k ∧ (k = 0 → L1 (K 63) 0 = r.toInt64) ∧ Inv F2 A2 L1))
def lc_line (K : Nat → Nat) (Inv : gm_M → gm_M → lm_M → Prop) : Prop := ∀ (p1 : Int64) (F A : gm_M) (L : lm_M), Inv F A L → vc_L_line K p1 L F A (fun (k : Int32) (F1 A1 : gm_M) (L1 : lm_M) => vc_M_line K p1 F1 A1 (fun (r : Int32) (F2 A2 : gm_M) => F2 (K 49) 0 = k ∧ (k = 0 → L1 (K 63) 0 = r.toInt64) ∧ Inv F2 A2 L1))
def lc_read (K : Nat → Nat) (Inv : gm_M → gm_M → lm_M → Prop) : Prop := ∀ (p1 : Int32) (p2 : Int32) (F A : gm_M) (L : lm_M), Inv F A L → vc_L_read K p1 p2 L F A (fun (k : Int32) (F1 A1 : gm_M) (L1 : lm_M) => vc_M_read K p1 p2 F1 A1 (fun (r : Int32) (F2 A2 : gm_M) => F2 (K 49) 0 = k ∧ (k = 0 → L1 (K 63) 0 = r.toInt64) ∧ Inv F2 A2 L1))
def lc_show (K : Nat → Nat) (Inv : gm_M → gm_M → lm_M → Prop) : Prop := ∀ (p1 : Int32) (p2 : Int32) (F A : gm_M) (L : lm_M), Inv F A L → vc_L_show K p1 p2 L F A (fun (k : Int32) (F1 A1 : gm_M) (L1 : lm_M) => vc_M_show K p1 p2 F1 A1 (fun (r : Int32) (F2 A2 : gm_M) => F2 (K 49) 0 = k ∧ (k = 0 → L1 (K 63) 0 = r.toInt64) ∧ Inv F2 A2 L1))
def lc_letter (K : Nat → Nat) (Inv : gm_M → gm_M → lm_M → Prop) : Prop := ∀ (p1 : Int32) (F A : gm_M) (L : lm_M), Inv F A L → vc_L_letter K p1 L F A (fun (k : Int32) (F1 A1 : gm_M) (L1 : lm_M) => vc_M_letter K p1 F1 A1 (fun (r : Int32) (F2 : gm_M) => F2 (K 49) 0 = k ∧ (k = 0 → L1 (K 63) 0 = r.toInt64) ∧ Inv F2 A1 L1))
def lc_work (K : Nat → Nat) (Inv : gm_M → gm_M → lm_M → Prop) : Prop := ∀ (p1 : Int32) (p2 : Int32) (p3 : Int32) (p4 : Int32) (F A : gm_M) (L : lm_M), Inv F A L → vc_L_work K p1 p2 p3 p4 L F A (fun (k : Int32) (F1 A1 : gm_M) (L1 : lm_M) => vc_M_work K p1 p2 p3 p4 F1 A1 (fun (r : Int32) (F2 A2 : gm_M) => F2 (K 49) 0 = k ∧ (k = 0 → L1 (K 63) 0 = r.toInt64) ∧ Inv F2 A2 L1))
def lc_divide (K : Nat → Nat) (Inv : gm_M → gm_M → lm_M → Prop) : Prop := ∀ (p1 : Int32) (p2 : Int32) (p3 : Int32) (p4 : Int32) (p5 : Int32) (F A : gm_M) (L : lm_M), (p1 = 0 ∨ p1 = 1) → Inv F A L → vc_L_divide K p1 p2 p3 p4 p5 L F A (fun (k : Int32) (F1 A1 : gm_M) (L1 : lm_M) => vc_M_divide K p1 p2 p3 p4 p5 F1 A1 (fun (r : Int32) (F2 A2 : gm_M) => F2 (K 49) 0 = k ∧ (k = 0 → L1 (K 63) 0 = r.toInt64) ∧ Inv F2 A2 L1))
def lc_shift (K : Nat → Nat) (Inv : gm_M → gm_M → lm_M → Prop) : Prop := ∀ (p1 : Int32) (p2 : Int32) (p3 : Int32) (F A : gm_M) (L : lm_M), Inv F A L → vc_L_shift K p1 p2 p3 L F A (fun (k : Int32) (F1 A1 : gm_M) (L1 : lm_M) => vc_M_shift K p1 p2 p3 F1 A1 (fun (r : Int32) (F2 A2 : gm_M) => F2 (K 49) 0 = k ∧ (k = 0 → L1 (K 63) 0 = r.toInt64) ∧ Inv F2 A2 L1))
def lc_bits (K : Nat → Nat) (Inv : gm_M → gm_M → lm_M → Prop) : Prop := ∀ (p1 : Int32) (p2 : Int32) (p3 : Int32) (p4 : Int32) (F A : gm_M) (L : lm_M), Inv F A L → vc_L_bits K p1 p2 p3 p4 L F A (fun (k : Int32) (F1 A1 : gm_M) (L1 : lm_M) => vc_M_bits2 K p1 p2 p3 p4 F1 A1 (fun (r : Int32) (F2 A2 : gm_M) => F2 (K 49) 0 = k ∧ (k = 0 → L1 (K 63) 0 = r.toInt64) ∧ Inv F2 A2 L1))
def lc_power (K : Nat → Nat) (Inv : gm_M → gm_M → lm_M → Prop) : Prop := ∀ (p1 : Int32) (p2 : Int32) (p3 : Int32) (F A : gm_M) (L : lm_M), Inv F A L → vc_L_power K p1 p2 p3 L F A (fun (k : Int32) (F1 A1 : gm_M) (L1 : lm_M) => vc_M_power K p1 p2 p3 F1 A1 (fun (r : Int32) (F2 A2 : gm_M) => F2 (K 49) 0 = k ∧ (k = 0 → L1 (K 63) 0 = r.toInt64) ∧ Inv F2 A2 L1))
def lc_residue (K : Nat → Nat) (Inv : gm_M → gm_M → lm_M → Prop) : Prop := ∀ (p1 : Int32) (p2 : Int32) (p3 : Int32) (p4 : Int32) (F A : gm_M) (L : lm_M), Inv F A L → vc_L_residue K p1 p2 p3 p4 L F A (fun (k : Int32) (F1 A1 : gm_M) (L1 : lm_M) => vc_M_residue K p1 p2 p3 p4 F1 A1 (fun (r : Int32) (F2 A2 : gm_M) => F2 (K 49) 0 = k ∧ (k = 0 → L1 (K 63) 0 = r.toInt64) ∧ Inv F2 A2 L1))
def lc_compare (K : Nat → Nat) (Inv : gm_M → gm_M → lm_M → Prop) : Prop := ∀ (p1 : Int32) (p2 : Int32) (F A : gm_M) (L : lm_M), Inv F A L → vc_L_compare K p1 p2 L F A (fun (k : Int32) (F1 A1 : gm_M) (L1 : lm_M) => vc_M_compare K p1 p2 F1 A1 (fun (r : Int32) (F2 A2 : gm_M) => F2 (K 49) 0 = k ∧ (k = 0 → L1 (K 63) 0 = r.toInt64) ∧ Inv F2 A2 L1))
def lc_small (K : Nat → Nat) (Inv : gm_M → gm_M → lm_M → Prop) : Prop := ∀ (p1 : Int32) (F A : gm_M) (L : lm_M), Inv F A L → vc_L_small K p1 L F A (fun (k : Int32) (F1 A1 : gm_M) (L1 : lm_M) => vc_M_small K p1 F1 A1 (fun (r : Int64) (F2 A2 : gm_M) => F2 (K 49) 0 = k ∧ (k = 0 → L1 (K 63) 0 = r) ∧ Inv F2 A2 L1))
def lc_low (K : Nat → Nat) (Inv : gm_M → gm_M → lm_M → Prop) : Prop := ∀ (p1 : Int32) (F A : gm_M) (L : lm_M), Inv F A L → vc_L_low K p1 L F A (fun (k : Int32) (F1 A1 : gm_M) (L1 : lm_M) => vc_M_low K p1 F1 A1 (fun (r : Int64) (F2 A2 : gm_M) => F2 (K 49) 0 = k ∧ (k = 0 → L1 (K 63) 0 = r) ∧ Inv F2 A2 L1))
def lc_folded (K : Nat → Nat) (Inv : gm_M → gm_M → lm_M → Prop) : Prop := ∀ (p1 : Int32) (F A : gm_M) (L : lm_M), Inv F A L → vc_L_folded K p1 L F A (fun (k : Int32) (F1 A1 : gm_M) (L1 : lm_M) => vc_M_folded K p1 F1 A1 (fun (r : Int64) (F2 A2 : gm_M) => F2 (K 49) 0 = k ∧ (k = 0 → L1 (K 63) 0 = r) ∧ Inv F2 A2 L1))
def lc_size (K : Nat → Nat) (Inv : gm_M → gm_M → lm_M → Prop) : Prop := ∀ (p1 : Int32) (F A : gm_M) (L : lm_M), Inv F A L → vc_L_size K p1 L F A (fun (k : Int32) (F1 A1 : gm_M) (L1 : lm_M) => vc_M_size K p1 F1 A1 (fun (r : Int32) (F2 A2 : gm_M) => F2 (K 49) 0 = k ∧ (k = 0 → L1 (K 63) 0 = r.toInt64) ∧ Inv F2 A2 L1))
def lw_b (x : Int32) : Int32 := if x = 0 then 0 else 1
theorem lw_b01 (x : Int32) : lw_b x = 0 ∨ lw_b x = 1 := by
  unfold lw_b; split
  · exact Or.inl rfl
  · exact Or.inr rfl
def lw_C (p : Program) (l : Launch) (s : State) (m : MethodId) (c : Code) (args : Array Value) (b Ln : Nat) (xs : Nat → Int32) (Λ : gs_L) (D : va_G) (cI cB cJ cW : ClassId) (K : Nat → Nat) : Prop :=
  p.tables.exec = Jvm.exec ∧ c.code = code ∧ c.maxLocals = 8 ∧ s.vm.findClass R_L = some m.cls ∧ (∀ w ∈ gw_WS, w.before args s = true) ∧ va_K D gcls (gtys cI cB cJ cW) s ∧ gs_D Λ ∧ gK cI cB cW Λ K ∧ gMd cI Λ K ∧ (K 63, gJ cJ 1) ∈ Λ ∧ gx_N (gw_A Λ) s ∧ va_Nc (gx_name 2) (gx_name 1) s ∧ va_Nc (gx_name 3) (gx_name 1) s ∧ va_X b Ln xs s s.heap ∧ b < s.heap.size ∧ ¬ gw_A Λ b ∧ l.stackTraces = false ∧ Ln ≤ 3072
section LWC
variable {p : Program} {l : Launch} {e : Env} {R : Room} {s : State} {m : MethodId} {args : Array Value} {below : List Frame} {meth : Method} {c : Code} {H : Heap} {locs : List Loc} {cells slots : Nat} {Q : State → Prop} {cc : ByteArray} {pc : Nat} {ls : Array Slot} {rest : List Value} {D : va_G} {Λ : gs_L} {F A : gm_M} {L : lm_M} {cI cB cJ cW : ClassId} {a b Ln i : Nat} {xs : Nat → Int32}
theorem lw_arg (hx : p.tables.exec = Jvm.exec) (hb : c.code = cc) (hX : va_X b Ln xs s s.heap) (hbl : b < s.heap.size) (hbA : ¬ gw_A Λ b) (hS : va_S (gw_A Λ) s.heap H locs) (h0 : ls[0]? = some (.val (.ref b))) (h4 : ls[4]? = some (.val (.int (nI i)))) (j : Nat) (hj : i + j < Ln) (hLn : Ln ≤ 3072) {n : Int} (d1 : decode cc pc = .ok (.aload_n 0, 1)) (d2 : decode cc (pc + 1) = .ok (.iload 4, 2)) (d3 : decode cc (pc + 1 + 2) = .ok (.iconst n, 1)) (hn : Int32.ofInt n = nI j) (d4 : decode cc (pc + 1 + 2 + 1) = .ok (.iadd, 1)) (d5 : decode cc (pc + 1 + 2 + 1 + 1) = .ok (.iaload, 1))
    (k : W p l e R s m args below meth c H locs cells slots Q (F0 m (pc + 1 + 2 + 1 + 1 + 1) ls (.int (xs (i + j)) :: rest))) : W p l e R s m args below meth c H locs cells slots Q (F0 m pc ls rest) := by
  refine lv_aload_n hx hb d1 rfl h0 ?_
  refine lv_iload hx hb d2 h4 ?_
  refine lv_iconst hx hb d3 hn ?_
  refine lv_iadd hx hb d4 ?_
  rw [nI_add]
  refine va_sld hx hb hX hbl hbA hS (vp_in_nI hj (by omega)) d5 ?_
  rw [nI_clamp (by omega)]
  exact k
theorem lw_bool (hx : p.tables.exec = Jvm.exec) (hb : c.code = cc) {x : Int32} (d1 : decode cc pc = .ok (.ifCond .eq 7, 3)) (d2 : decode cc (pc + 3) = .ok (.iconst 1, 1)) (d3 : decode cc (pc + 3 + 1) = .ok (.goto 4, 3)) (d4 : decode cc (pc + 7) = .ok (.iconst 0, 1))
    (k : W p l e R s m args below meth c H locs cells slots Q (F0 m (pc + 8) ls (.int (lw_b x) :: rest))) : W p l e R s m args below meth c H locs cells slots Q (F0 m pc ls (.int x :: rest)) := by
  refine lv_if_eq (tgt := pc + 7) hx hb d1 (by omega) (fun h => ?_) (fun h => ?_)
  · refine lv_iconst (v := (0 : Int32)) hx hb d4 (by decide) ?_
    rw [show lw_b x = 0 from if_pos h] at k
    exact k
  · refine lv_iconst (v := (1 : Int32)) hx hb d2 (by decide) ?_
    refine lv_goto (tgt := pc + 8) hx hb d3 (by omega) ?_
    rw [show lw_b x = 1 from if_neg h] at k
    exact k
theorem gs_lld (hexec : p.tables.exec = Jvm.exec) (hb : c.code = cc) (hK : va_K D gcls (gtys cI cB cJ cW) s) (hP : va_P D gcls (gs_ws Λ F A L) H) {n : Nat} (hm : (a, gJ cJ n) ∈ Λ) {i : Int32} (hin : vp_in i n) (hdg : decode cc pc = .ok (.laload, 1))
    (kk : W p l e R s m args below meth c H locs cells slots Q (F0 m (pc + 1) ls (.long (L a i.toNatClampNeg) :: rest))) : W p l e R s m args below meth c H locs cells slots Q (F0 m pc ls (.int i :: .ref a :: rest)) := by
  obtain ⟨q0, -, hw⟩ := gs_ws_at (F := F) (A := A) (L := L) hm
  exact va_lald hexec hb hK hP q0 2 hw rfl hin hdg kk
end LWC
