theorem d_D_middle_0 : decode c_D_middle 0 = .ok (.aload_n 0, 1) := by decide +kernel
theorem d_D_middle_1 : decode c_D_middle 1 = .ok (.iload_n 3, 1) := by decide +kernel
theorem d_D_middle_2 : decode c_D_middle 2 = .ok (.aload_n 0, 1) := by decide +kernel
theorem d_D_middle_3 : decode c_D_middle 3 = .ok (.getfield 237, 3) := by decide +kernel
theorem d_D_middle_6 : decode c_D_middle 6 = .ok (.invokevirtual 306, 3) := by decide +kernel
theorem d_D_middle_9 : decode c_D_middle 9 = .ok (.istore 5, 2) := by decide +kernel
theorem d_D_middle_11 : decode c_D_middle 11 = .ok (.iload_n 2, 1) := by decide +kernel
theorem d_D_middle_12 : decode c_D_middle 12 = .ok (.bipush 32, 2) := by decide +kernel
theorem d_D_middle_14 : decode c_D_middle 14 = .ok (.if_icmp .ge 16, 3) := by decide +kernel
theorem d_D_middle_17 : decode c_D_middle 17 = .ok (.aload_n 0, 1) := by decide +kernel
theorem d_D_middle_18 : decode c_D_middle 18 = .ok (.iload_n 2, 1) := by decide +kernel
theorem d_D_middle_19 : decode c_D_middle 19 = .ok (.iload_n 1, 1) := by decide +kernel
theorem d_D_middle_20 : decode c_D_middle 20 = .ok (.iload 5, 2) := by decide +kernel
theorem d_D_middle_22 : decode c_D_middle 22 = .ok (.iload 4, 2) := by decide +kernel
theorem d_D_middle_24 : decode c_D_middle 24 = .ok (.invokevirtual 370, 3) := by decide +kernel
theorem d_D_middle_27 : decode c_D_middle 27 = .ok (.goto 465, 3) := by decide +kernel
theorem d_D_middle_30 : decode c_D_middle 30 = .ok (.iload_n 2, 1) := by decide +kernel
theorem d_D_middle_31 : decode c_D_middle 31 = .ok (.tableswitch 456 36 61 #[117, 193, 213, 233, 253, 253, 253, 253, 456, 456, 456, 456, 253, 253, 253, 253, 456, 456, 456, 456, 267, 323, 335, 456, 362, 362], 117) := by decide +kernel
theorem d_D_middle_148 : decode c_D_middle 148 = .ok (.iload 5, 2) := by decide +kernel
theorem d_D_middle_150 : decode c_D_middle 150 = .ok (.iconst 1, 1) := by decide +kernel
theorem d_D_middle_151 : decode c_D_middle 151 = .ok (.iushr, 1) := by decide +kernel
theorem d_D_middle_152 : decode c_D_middle 152 = .ok (.aload_n 0, 1) := by decide +kernel
theorem d_D_middle_153 : decode c_D_middle 153 = .ok (.getfield 255, 3) := by decide +kernel
theorem d_D_middle_156 : decode c_D_middle 156 = .ok (.aload_n 0, 1) := by decide +kernel
theorem d_D_middle_157 : decode c_D_middle 157 = .ok (.getfield 262, 3) := by decide +kernel
theorem d_D_middle_160 : decode c_D_middle 160 = .ok (.if_icmp .eq 7, 3) := by decide +kernel
theorem d_D_middle_163 : decode c_D_middle 163 = .ok (.iconst 1, 1) := by decide +kernel
theorem d_D_middle_164 : decode c_D_middle 164 = .ok (.goto 4, 3) := by decide +kernel
theorem d_D_middle_167 : decode c_D_middle 167 = .ok (.iconst 0, 1) := by decide +kernel
theorem d_D_middle_168 : decode c_D_middle 168 = .ok (.invokestatic 355, 3) := by decide +kernel
theorem d_D_middle_171 : decode c_D_middle 171 = .ok (.bipush 31, 2) := by decide +kernel
theorem d_D_middle_173 : decode c_D_middle 173 = .ok (.ishl, 1) := by decide +kernel
theorem d_D_middle_174 : decode c_D_middle 174 = .ok (.ior, 1) := by decide +kernel
theorem d_D_middle_175 : decode c_D_middle 175 = .ok (.istore 6, 2) := by decide +kernel
theorem d_D_middle_177 : decode c_D_middle 177 = .ok (.aload_n 0, 1) := by decide +kernel
theorem d_D_middle_178 : decode c_D_middle 178 = .ok (.getfield 240, 3) := by decide +kernel
theorem d_D_middle_181 : decode c_D_middle 181 = .ok (.iconst 1, 1) := by decide +kernel
theorem d_D_middle_182 : decode c_D_middle 182 = .ok (.iand, 1) := by decide +kernel
theorem d_D_middle_183 : decode c_D_middle 183 = .ok (.ifCond .ne 7, 3) := by decide +kernel
theorem d_D_middle_186 : decode c_D_middle 186 = .ok (.iconst 0, 1) := by decide +kernel
theorem d_D_middle_187 : decode c_D_middle 187 = .ok (.goto 5, 3) := by decide +kernel
theorem d_D_middle_190 : decode c_D_middle 190 = .ok (.iload 4, 2) := by decide +kernel
theorem d_D_middle_192 : decode c_D_middle 192 = .ok (.istore 7, 2) := by decide +kernel
theorem d_D_middle_194 : decode c_D_middle 194 = .ok (.aload_n 0, 1) := by decide +kernel
theorem d_D_middle_195 : decode c_D_middle 195 = .ok (.aload_n 0, 1) := by decide +kernel
theorem d_D_middle_196 : decode c_D_middle 196 = .ok (.getfield 240, 3) := by decide +kernel
theorem d_D_middle_199 : decode c_D_middle 199 = .ok (.iconst 1, 1) := by decide +kernel
theorem d_D_middle_200 : decode c_D_middle 200 = .ok (.iushr, 1) := by decide +kernel
theorem d_D_middle_201 : decode c_D_middle 201 = .ok (.iload 5, 2) := by decide +kernel
theorem d_D_middle_203 : decode c_D_middle 203 = .ok (.bipush 31, 2) := by decide +kernel
theorem d_D_middle_205 : decode c_D_middle 205 = .ok (.ishl, 1) := by decide +kernel
theorem d_D_middle_206 : decode c_D_middle 206 = .ok (.ior, 1) := by decide +kernel
theorem d_D_middle_207 : decode c_D_middle 207 = .ok (.putfield 240, 3) := by decide +kernel
theorem d_D_middle_210 : decode c_D_middle 210 = .ok (.aload_n 0, 1) := by decide +kernel
theorem d_D_middle_211 : decode c_D_middle 211 = .ok (.iload_n 1, 1) := by decide +kernel
theorem d_D_middle_212 : decode c_D_middle 212 = .ok (.iload 6, 2) := by decide +kernel
theorem d_D_middle_214 : decode c_D_middle 214 = .ok (.iload 7, 2) := by decide +kernel
theorem d_D_middle_216 : decode c_D_middle 216 = .ok (.iconst 0, 1) := by decide +kernel
theorem d_D_middle_217 : decode c_D_middle 217 = .ok (.iconst 1, 1) := by decide +kernel
theorem d_D_middle_218 : decode c_D_middle 218 = .ok (.invokevirtual 351, 3) := by decide +kernel
theorem d_D_middle_221 : decode c_D_middle 221 = .ok (.goto 271, 3) := by decide +kernel
theorem d_D_middle_224 : decode c_D_middle 224 = .ok (.aload_n 0, 1) := by decide +kernel
theorem d_D_middle_225 : decode c_D_middle 225 = .ok (.iload_n 1, 1) := by decide +kernel
theorem d_D_middle_226 : decode c_D_middle 226 = .ok (.aload_n 0, 1) := by decide +kernel
theorem d_D_middle_227 : decode c_D_middle 227 = .ok (.getfield 237, 3) := by decide +kernel
theorem d_D_middle_230 : decode c_D_middle 230 = .ok (.iload 5, 2) := by decide +kernel
theorem d_D_middle_232 : decode c_D_middle 232 = .ok (.iload 4, 2) := by decide +kernel
theorem d_D_middle_234 : decode c_D_middle 234 = .ok (.bipush 31, 2) := by decide +kernel
theorem d_D_middle_236 : decode c_D_middle 236 = .ok (.iand, 1) := by decide +kernel
theorem d_D_middle_237 : decode c_D_middle 237 = .ok (.ishl, 1) := by decide +kernel
theorem d_D_middle_238 : decode c_D_middle 238 = .ok (.invokevirtual 309, 3) := by decide +kernel
theorem d_D_middle_241 : decode c_D_middle 241 = .ok (.goto 251, 3) := by decide +kernel
theorem d_D_middle_244 : decode c_D_middle 244 = .ok (.aload_n 0, 1) := by decide +kernel
theorem d_D_middle_245 : decode c_D_middle 245 = .ok (.iload_n 1, 1) := by decide +kernel
theorem d_D_middle_246 : decode c_D_middle 246 = .ok (.aload_n 0, 1) := by decide +kernel
theorem d_D_middle_247 : decode c_D_middle 247 = .ok (.getfield 237, 3) := by decide +kernel
theorem d_D_middle_250 : decode c_D_middle 250 = .ok (.iload 5, 2) := by decide +kernel
theorem d_D_middle_252 : decode c_D_middle 252 = .ok (.iload 4, 2) := by decide +kernel
theorem d_D_middle_254 : decode c_D_middle 254 = .ok (.bipush 31, 2) := by decide +kernel
theorem d_D_middle_256 : decode c_D_middle 256 = .ok (.iand, 1) := by decide +kernel
theorem d_D_middle_257 : decode c_D_middle 257 = .ok (.iushr, 1) := by decide +kernel
theorem d_D_middle_258 : decode c_D_middle 258 = .ok (.invokevirtual 309, 3) := by decide +kernel
theorem d_D_middle_261 : decode c_D_middle 261 = .ok (.goto 231, 3) := by decide +kernel
theorem d_D_middle_264 : decode c_D_middle 264 = .ok (.aload_n 0, 1) := by decide +kernel
theorem d_D_middle_265 : decode c_D_middle 265 = .ok (.iload_n 1, 1) := by decide +kernel
theorem d_D_middle_266 : decode c_D_middle 266 = .ok (.aload_n 0, 1) := by decide +kernel
theorem d_D_middle_267 : decode c_D_middle 267 = .ok (.getfield 237, 3) := by decide +kernel
theorem d_D_middle_270 : decode c_D_middle 270 = .ok (.iload 5, 2) := by decide +kernel
theorem d_D_middle_272 : decode c_D_middle 272 = .ok (.iload 4, 2) := by decide +kernel
theorem d_D_middle_274 : decode c_D_middle 274 = .ok (.bipush 31, 2) := by decide +kernel
theorem d_D_middle_276 : decode c_D_middle 276 = .ok (.iand, 1) := by decide +kernel
theorem d_D_middle_277 : decode c_D_middle 277 = .ok (.ishr, 1) := by decide +kernel
theorem d_D_middle_278 : decode c_D_middle 278 = .ok (.invokevirtual 309, 3) := by decide +kernel
theorem d_D_middle_281 : decode c_D_middle 281 = .ok (.goto 211, 3) := by decide +kernel
theorem d_D_middle_284 : decode c_D_middle 284 = .ok (.aload_n 0, 1) := by decide +kernel
theorem d_D_middle_285 : decode c_D_middle 285 = .ok (.iload_n 2, 1) := by decide +kernel
theorem d_D_middle_286 : decode c_D_middle 286 = .ok (.iload_n 1, 1) := by decide +kernel
theorem d_D_middle_287 : decode c_D_middle 287 = .ok (.iload_n 3, 1) := by decide +kernel
theorem d_D_middle_288 : decode c_D_middle 288 = .ok (.iload 5, 2) := by decide +kernel
theorem d_D_middle_290 : decode c_D_middle 290 = .ok (.iload 4, 2) := by decide +kernel
theorem d_D_middle_292 : decode c_D_middle 292 = .ok (.invokevirtual 374, 3) := by decide +kernel
theorem d_D_middle_295 : decode c_D_middle 295 = .ok (.goto 197, 3) := by decide +kernel
theorem d_D_middle_298 : decode c_D_middle 298 = .ok (.aload_n 0, 1) := by decide +kernel
theorem d_D_middle_299 : decode c_D_middle 299 = .ok (.iload 5, 2) := by decide +kernel
theorem d_D_middle_301 : decode c_D_middle 301 = .ok (.iload 4, 2) := by decide +kernel
theorem d_D_middle_303 : decode c_D_middle 303 = .ok (.iadd, 1) := by decide +kernel
theorem d_D_middle_304 : decode c_D_middle 304 = .ok (.iconst 3, 1) := by decide +kernel
theorem d_D_middle_305 : decode c_D_middle 305 = .ok (.iand, 1) := by decide +kernel
theorem d_D_middle_306 : decode c_D_middle 306 = .ok (.ifCond .eq 7, 3) := by decide +kernel
theorem d_D_middle_309 : decode c_D_middle 309 = .ok (.iconst 1, 1) := by decide +kernel
theorem d_D_middle_310 : decode c_D_middle 310 = .ok (.goto 4, 3) := by decide +kernel
theorem d_D_middle_313 : decode c_D_middle 313 = .ok (.iconst 0, 1) := by decide +kernel
theorem d_D_middle_314 : decode c_D_middle 314 = .ok (.bipush 7, 2) := by decide +kernel
theorem d_D_middle_316 : decode c_D_middle 316 = .ok (.invokevirtual 334, 3) := by decide +kernel
theorem d_D_middle_319 : decode c_D_middle 319 = .ok (.aload_n 0, 1) := by decide +kernel
theorem d_D_middle_320 : decode c_D_middle 320 = .ok (.getfield 312, 3) := by decide +kernel
theorem d_D_middle_323 : decode c_D_middle 323 = .ok (.ifCond .lt 6, 3) := by decide +kernel
theorem d_D_middle_326 : decode c_D_middle 326 = .ok (.goto 166, 3) := by decide +kernel
theorem d_D_middle_329 : decode c_D_middle 329 = .ok (.aload_n 0, 1) := by decide +kernel
theorem d_D_middle_330 : decode c_D_middle 330 = .ok (.iload 5, 2) := by decide +kernel
theorem d_D_middle_332 : decode c_D_middle 332 = .ok (.iload 4, 2) := by decide +kernel
theorem d_D_middle_334 : decode c_D_middle 334 = .ok (.iadd, 1) := by decide +kernel
theorem d_D_middle_335 : decode c_D_middle 335 = .ok (.putfield 320, 3) := by decide +kernel
theorem d_D_middle_338 : decode c_D_middle 338 = .ok (.aload_n 0, 1) := by decide +kernel
theorem d_D_middle_339 : decode c_D_middle 339 = .ok (.iload_n 1, 1) := by decide +kernel
theorem d_D_middle_340 : decode c_D_middle 340 = .ok (.aload_n 0, 1) := by decide +kernel
theorem d_D_middle_341 : decode c_D_middle 341 = .ok (.getfield 237, 3) := by decide +kernel
theorem d_D_middle_344 : decode c_D_middle 344 = .ok (.aload_n 0, 1) := by decide +kernel
theorem d_D_middle_345 : decode c_D_middle 345 = .ok (.getfield 231, 3) := by decide +kernel
theorem d_D_middle_348 : decode c_D_middle 348 = .ok (.invokevirtual 309, 3) := by decide +kernel
theorem d_D_middle_351 : decode c_D_middle 351 = .ok (.goto 141, 3) := by decide +kernel
theorem d_D_middle_354 : decode c_D_middle 354 = .ok (.aload_n 0, 1) := by decide +kernel
theorem d_D_middle_355 : decode c_D_middle 355 = .ok (.iload 5, 2) := by decide +kernel
theorem d_D_middle_357 : decode c_D_middle 357 = .ok (.iload 4, 2) := by decide +kernel
theorem d_D_middle_359 : decode c_D_middle 359 = .ok (.iadd, 1) := by decide +kernel
theorem d_D_middle_360 : decode c_D_middle 360 = .ok (.invokevirtual 378, 3) := by decide +kernel
theorem d_D_middle_363 : decode c_D_middle 363 = .ok (.goto 129, 3) := by decide +kernel
theorem d_D_middle_366 : decode c_D_middle 366 = .ok (.aload_n 0, 1) := by decide +kernel
theorem d_D_middle_367 : decode c_D_middle 367 = .ok (.aload_n 0, 1) := by decide +kernel
theorem d_D_middle_368 : decode c_D_middle 368 = .ok (.iload_n 1, 1) := by decide +kernel
theorem d_D_middle_369 : decode c_D_middle 369 = .ok (.bipush 15, 2) := by decide +kernel
theorem d_D_middle_371 : decode c_D_middle 371 = .ok (.iand, 1) := by decide +kernel
theorem d_D_middle_372 : decode c_D_middle 372 = .ok (.invokevirtual 317, 3) := by decide +kernel
theorem d_D_middle_375 : decode c_D_middle 375 = .ok (.sipush 128, 3) := by decide +kernel
theorem d_D_middle_378 : decode c_D_middle 378 = .ok (.iload 5, 2) := by decide +kernel
theorem d_D_middle_380 : decode c_D_middle 380 = .ok (.iload 4, 2) := by decide +kernel
theorem d_D_middle_382 : decode c_D_middle 382 = .ok (.iadd, 1) := by decide +kernel
theorem d_D_middle_383 : decode c_D_middle 383 = .ok (.bipush 127, 2) := by decide +kernel
theorem d_D_middle_385 : decode c_D_middle 385 = .ok (.iand, 1) := by decide +kernel
theorem d_D_middle_386 : decode c_D_middle 386 = .ok (.iadd, 1) := by decide +kernel
theorem d_D_middle_387 : decode c_D_middle 387 = .ok (.invokevirtual 334, 3) := by decide +kernel
theorem d_D_middle_390 : decode c_D_middle 390 = .ok (.goto 102, 3) := by decide +kernel
theorem d_D_middle_393 : decode c_D_middle 393 = .ok (.iload_n 2, 1) := by decide +kernel
theorem d_D_middle_394 : decode c_D_middle 394 = .ok (.bipush 60, 2) := by decide +kernel
theorem d_D_middle_396 : decode c_D_middle 396 = .ok (.if_icmp .ne 14, 3) := by decide +kernel
theorem d_D_middle_399 : decode c_D_middle 399 = .ok (.aload_n 0, 1) := by decide +kernel
theorem d_D_middle_400 : decode c_D_middle 400 = .ok (.getfield 237, 3) := by decide +kernel
theorem d_D_middle_403 : decode c_D_middle 403 = .ok (.iconst 3, 1) := by decide +kernel
theorem d_D_middle_404 : decode c_D_middle 404 = .ok (.iadd, 1) := by decide +kernel
theorem d_D_middle_405 : decode c_D_middle 405 = .ok (.iconst 3, 1) := by decide +kernel
theorem d_D_middle_406 : decode c_D_middle 406 = .ok (.iand, 1) := by decide +kernel
theorem d_D_middle_407 : decode c_D_middle 407 = .ok (.goto 11, 3) := by decide +kernel
theorem d_D_middle_410 : decode c_D_middle 410 = .ok (.aload_n 0, 1) := by decide +kernel
theorem d_D_middle_411 : decode c_D_middle 411 = .ok (.getfield 237, 3) := by decide +kernel
theorem d_D_middle_414 : decode c_D_middle 414 = .ok (.iconst 1, 1) := by decide +kernel
theorem d_D_middle_415 : decode c_D_middle 415 = .ok (.iadd, 1) := by decide +kernel
theorem d_D_middle_416 : decode c_D_middle 416 = .ok (.iconst 3, 1) := by decide +kernel
theorem d_D_middle_417 : decode c_D_middle 417 = .ok (.iand, 1) := by decide +kernel
theorem d_D_middle_418 : decode c_D_middle 418 = .ok (.istore 8, 2) := by decide +kernel
theorem d_D_middle_420 : decode c_D_middle 420 = .ok (.aload_n 0, 1) := by decide +kernel
theorem d_D_middle_421 : decode c_D_middle 421 = .ok (.aload_n 0, 1) := by decide +kernel
theorem d_D_middle_422 : decode c_D_middle 422 = .ok (.getfield 243, 3) := by decide +kernel
theorem d_D_middle_425 : decode c_D_middle 425 = .ok (.iload 8, 2) := by decide +kernel
theorem d_D_middle_427 : decode c_D_middle 427 = .ok (.ishr, 1) := by decide +kernel
theorem d_D_middle_428 : decode c_D_middle 428 = .ok (.iconst 1, 1) := by decide +kernel
theorem d_D_middle_429 : decode c_D_middle 429 = .ok (.iand, 1) := by decide +kernel
theorem d_D_middle_430 : decode c_D_middle 430 = .ok (.iconst 1, 1) := by decide +kernel
theorem d_D_middle_431 : decode c_D_middle 431 = .ok (.if_icmp .ne 7, 3) := by decide +kernel
theorem d_D_middle_434 : decode c_D_middle 434 = .ok (.iconst 1, 1) := by decide +kernel
theorem d_D_middle_435 : decode c_D_middle 435 = .ok (.goto 4, 3) := by decide +kernel
theorem d_D_middle_438 : decode c_D_middle 438 = .ok (.iconst 0, 1) := by decide +kernel
theorem d_D_middle_439 : decode c_D_middle 439 = .ok (.iload_n 2, 1) := by decide +kernel
theorem d_D_middle_440 : decode c_D_middle 440 = .ok (.bipush 60, 2) := by decide +kernel
theorem d_D_middle_442 : decode c_D_middle 442 = .ok (.if_icmp .ne 7, 3) := by decide +kernel
theorem d_D_middle_445 : decode c_D_middle 445 = .ok (.iconst 5, 1) := by decide +kernel
theorem d_D_middle_446 : decode c_D_middle 446 = .ok (.goto 5, 3) := by decide +kernel
theorem d_D_middle_449 : decode c_D_middle 449 = .ok (.bipush 6, 2) := by decide +kernel
theorem d_D_middle_451 : decode c_D_middle 451 = .ok (.invokevirtual 334, 3) := by decide +kernel
theorem d_D_middle_454 : decode c_D_middle 454 = .ok (.aload_n 0, 1) := by decide +kernel
theorem d_D_middle_455 : decode c_D_middle 455 = .ok (.getfield 312, 3) := by decide +kernel
theorem d_D_middle_458 : decode c_D_middle 458 = .ok (.ifCond .lt 6, 3) := by decide +kernel
theorem d_D_middle_461 : decode c_D_middle 461 = .ok (.goto 31, 3) := by decide +kernel
theorem d_D_middle_464 : decode c_D_middle 464 = .ok (.aload_n 0, 1) := by decide +kernel
theorem d_D_middle_465 : decode c_D_middle 465 = .ok (.iload 8, 2) := by decide +kernel
theorem d_D_middle_467 : decode c_D_middle 467 = .ok (.putfield 237, 3) := by decide +kernel
theorem d_D_middle_470 : decode c_D_middle 470 = .ok (.aload_n 0, 1) := by decide +kernel
theorem d_D_middle_471 : decode c_D_middle 471 = .ok (.iload_n 1, 1) := by decide +kernel
theorem d_D_middle_472 : decode c_D_middle 472 = .ok (.aload_n 0, 1) := by decide +kernel
theorem d_D_middle_473 : decode c_D_middle 473 = .ok (.getfield 237, 3) := by decide +kernel
theorem d_D_middle_476 : decode c_D_middle 476 = .ok (.iload 5, 2) := by decide +kernel
theorem d_D_middle_478 : decode c_D_middle 478 = .ok (.iload 4, 2) := by decide +kernel
theorem d_D_middle_480 : decode c_D_middle 480 = .ok (.iadd, 1) := by decide +kernel
theorem d_D_middle_481 : decode c_D_middle 481 = .ok (.invokevirtual 309, 3) := by decide +kernel
theorem d_D_middle_484 : decode c_D_middle 484 = .ok (.goto 8, 3) := by decide +kernel
theorem d_D_middle_487 : decode c_D_middle 487 = .ok (.aload_n 0, 1) := by decide +kernel
theorem d_D_middle_488 : decode c_D_middle 488 = .ok (.iconst 2, 1) := by decide +kernel
theorem d_D_middle_489 : decode c_D_middle 489 = .ok (.putfield 312, 3) := by decide +kernel
theorem d_D_middle_492 : decode c_D_middle 492 = .ok (.return_, 1) := by decide +kernel
theorem kd_D_middle : (y_D_middle).cls = "WindowMachineModel" ∧ (y_D_middle).cls ≠ "java/lang/invoke/MethodHandle" ∧ (y_D_middle).cls ≠ "java/lang/invoke/VarHandle" ∧ (parseMethodDescriptor (y_D_middle).desc).map (fun d => d.parameters.length) = some 4 := by decide +kernel
def m_middle (st : SD) (p0 : Int32) (p1 : Int32) (p2 : Int32) (p3 : Int32) : SD := (let r_1 := m_get st p2 (st.1 6); (if (32 : Int32) ≤ p1 then (if p1 = (36 : Int32) then (let x_5 := (if (st.1 13) = (st.1 15) then (0 : Int32) else (1 : Int32)); (let r_8 := m_bit x_5; (let x_9 := (zushr r_1 (1 : Int32)) ||| (r_8 <<< ((31 : Int32) &&& 31)); (let x_10 := (if ((st.1 7) &&& (1 : Int32)) = (0 : Int32) then (0 : Int32) else p3); (let u_13 := m_adds (upd st.1 7 ((zushr (st.1 7) (1 : Int32)) ||| (r_1 <<< ((31 : Int32) &&& 31))), st.2.1, st.2.2.1, st.2.2.2.1, st.2.2.2.2.1, st.2.2.2.2.2) p0 x_9 x_10 (0 : Int32) (1 : Int32); u_13))))) else (if p1 = (37 : Int32) then (let u_15 := m_gives st p0 (st.1 6) (r_1 <<< ((p3 &&& (31 : Int32)) &&& 31)); u_15) else (if p1 = (38 : Int32) then (let u_17 := m_gives st p0 (st.1 6) (zushr r_1 (p3 &&& (31 : Int32))); u_17) else (if p1 = (39 : Int32) then (let u_19 := m_gives st p0 (st.1 6) (r_1 >>> ((p3 &&& (31 : Int32)) &&& 31)); u_19) else (if p1 = (40 : Int32) then (let u_21 := m_special st p1 p0 p2 r_1 p3; u_21) else (if p1 = (41 : Int32) then (let u_23 := m_special st p1 p0 p2 r_1 p3; u_23) else (if p1 = (42 : Int32) then (let u_25 := m_special st p1 p0 p2 r_1 p3; u_25) else (if p1 = (43 : Int32) then (let u_27 := m_special st p1 p0 p2 r_1 p3; u_27) else (if p1 = (48 : Int32) then (let u_29 := m_special st p1 p0 p2 r_1 p3; u_29) else (if p1 = (49 : Int32) then (let u_31 := m_special st p1 p0 p2 r_1 p3; u_31) else (if p1 = (50 : Int32) then (let u_33 := m_special st p1 p0 p2 r_1 p3; u_33) else (if p1 = (51 : Int32) then (let u_35 := m_special st p1 p0 p2 r_1 p3; u_35) else (if p1 = (56 : Int32) then (let x_37 := (if ((r_1 + p3) &&& (3 : Int32)) = (0 : Int32) then (0 : Int32) else (1 : Int32)); (let u_40 := m_traps st x_37 (7 : Int32); (if (u_40.1 21) < (0 : Int32) then (let u_42 := m_gives (upd u_40.1 22 (r_1 + p3), u_40.2.1, u_40.2.2.1, u_40.2.2.2.1, u_40.2.2.2.2.1, u_40.2.2.2.2.2) p0 (u_40.1 6) (u_40.1 4); u_42) else u_40))) else (if p1 = (57 : Int32) then (let u_44 := m_returns st (r_1 + p3); u_44) else (if p1 = (58 : Int32) then (let r_46 := m_holds st (p0 &&& (15 : Int32)); (let u_47 := m_traps st r_46 ((128 : Int32) + ((r_1 + p3) &&& (127 : Int32))); u_47)) else (if p1 = (60 : Int32) then (let x_49 := (if p1 = (60 : Int32) then ((st.1 6) + (3 : Int32)) &&& (3 : Int32) else ((st.1 6) + (1 : Int32)) &&& (3 : Int32)); (let x_52 := (if (((st.1 8) >>> (x_49 &&& 31)) &&& (1 : Int32)) = (1 : Int32) then (1 : Int32) else (0 : Int32)); (let x_55 := (if p1 = (60 : Int32) then (5 : Int32) else (6 : Int32)); (let u_58 := m_traps st x_52 x_55; (if (u_58.1 21) < (0 : Int32) then (let u_60 := m_gives (upd u_58.1 6 x_49, u_58.2.1, u_58.2.2.1, u_58.2.2.2.1, u_58.2.2.2.2.1, u_58.2.2.2.2.2) p0 x_49 (r_1 + p3); u_60) else u_58))))) else (if p1 = (61 : Int32) then (let x_62 := (if p1 = (60 : Int32) then ((st.1 6) + (3 : Int32)) &&& (3 : Int32) else ((st.1 6) + (1 : Int32)) &&& (3 : Int32)); (let x_65 := (if (((st.1 8) >>> (x_62 &&& 31)) &&& (1 : Int32)) = (1 : Int32) then (1 : Int32) else (0 : Int32)); (let x_68 := (if p1 = (60 : Int32) then (5 : Int32) else (6 : Int32)); (let u_71 := m_traps st x_65 x_68; (if (u_71.1 21) < (0 : Int32) then (let u_73 := m_gives (upd u_71.1 6 x_62, u_71.2.1, u_71.2.2.1, u_71.2.2.2.1, u_71.2.2.2.2.1, u_71.2.2.2.2.2) p0 x_62 (r_1 + p3); u_73) else u_71))))) else (upd st.1 21 (2 : Int32), st.2.1, st.2.2.1, st.2.2.2.1, st.2.2.2.2.1, st.2.2.2.2.2)))))))))))))))))) else (let u_83 := m_reckons st p1 p0 r_1 p3; u_83)))
set_option maxHeartbeats 4000000 in
set_option maxRecDepth 100000 in
theorem mt_D_middle (l : Launch) (D : va_G) (h : Nat → Nat) (c : Nat → ClassId) (sz : Nat) (st : SD) (p0 : Int32) (p1 : Int32) (p2 : Int32) (p3 : Int32) (hV : okV st) (hr9 : vp_in p0 32) (hs9 : vp_in p2 32) : Met l y_D_middle w_D_middle ({ frames := 3, cells := 0, slots := 0, locals := 87 }) (va_Pc [.ref (h 20), .int p0, .int p1, .int p2, .int p3] (zw_pre D vwCl [(c 21, .long), (c 22, .int), (c 23, .int), (c 24, .int), (c 25, .int), (c 26, .int), (c 27, .int), (c 28, .int)] sz (wD h c st) (fun _ => True))) (va_Qv (fun (u : SD) => u = m_middle st p0 p1 p2 p3) (fun u t => zw_at D vwCl (va_A (wD h c st) sz) ((fun (u : SD) => wD h c u) u) t) (va_A (wD h c st) sz)) 0 0 (va_A (wD h c st) sz) := by
  refine zm (Qf := fun A => va_Qv (fun (u : SD) => u = m_middle st p0 p1 p2 p3) (fun u t => zw_at D vwCl A ((fun (u : SD) => wD h c u) u) t) A) (Zf := fun _ _ => True) (cc := c_D_middle) (nL := 9) (ret := none) (by decide) rfl (Nat.le_of_ble_eq_true rfl) ?_
  intro p e s m below meth c9 A H locs ls hx hb hml hown hts hr hlocks hA hK hP hD hS hZ hl
  have hl : lv_has ls 9 [(0, .ref (h 20)), (1, .int p0), (2, .int p1), (3, .int p2), (4, .int p3)] := hl
  have ht : ∀ w9 ∈ zT, w9.before _ s = true := fun w9 h9 => hts w9 (List.mem_cons_of_mem _ h9)
  refine lv_aload_n hx hb d_D_middle_0 rfl (lv_at hl 0 rfl) ?_
  refine lv_iload_n hx hb d_D_middle_1 rfl (lv_at hl 3 rfl) ?_
  refine lv_aload_n hx hb d_D_middle_2 rfl (lv_at hl 0 rfl) ?_
  refine va_get (D := D) (ci := 6) (v := .int (st.1 6)) (C := "WindowMachineModel") (T := T_D) (N := 31) hx hb ht zi_D hown hK hP 0 rfl rfl 14 (by decide) (ht _ zw_868) (fun _ h9 => h9) rfl d_D_middle_3 ?_
  refine zc_i (w2 := fun _ => wD h c st) (va_runV (As := [.int p2, .int (st.1 6)]) (rest := []) ⟨hx, hb, hml, hown, ht⟩ (mt_D_get l D h c H.size st p2 (st.1 6) hs9 (hV).1) (cwV 2 ht (zgV zw_986 zw_988 zs_56 zw_7 zw_989) rfl rfl rfl kd_D_get ⟨Nat.le_of_ble_eq_true rfl, Nat.le_of_ble_eq_true rfl⟩) ⟨zw_blind zw_tt, va_recv (hK.sub (tys' := [(c 21, .long), (c 22, .int), (c 23, .int), (c 24, .int), (c 25, .int), (c 26, .int), (c 27, .int), (c 28, .int)]) [0, 1, 2, 3, 4, 5, 6, 7] rfl) (hP.sub (ws' := wD h c st) [0, 1, 2, 3, 4, 5, 6, 7, 8] rfl) (ci := 6) (q0 := 0) rfl rfl, zw_go (hP.sub (ws' := wD h c st) [0, 1, 2, 3, 4, 5, 6, 7, 8] rfl) (hD.sub (ws' := wD h c st) [0, 1, 2, 3, 4, 5, 6, 7, 8] (by decide) rfl) (hK.sub (tys' := [(c 21, .long), (c 22, .int), (c 23, .int), (c 24, .int), (c 25, .int), (c 26, .int), (c 27, .int), (c 28, .int)]) [0, 1, 2, 3, 4, 5, 6, 7] rfl) (fun _ _ _ => trivial)⟩ rfl rfl hl.1 rfl (lv_room (Nat.le_of_ble_eq_true rfl)) d_D_middle_6 ⟨Nat.le_of_ble_eq_true rfl, Nat.le_of_ble_eq_true rfl⟩) hP hD hS hA [0, 1, 2, 3, 4, 5, 6, 7, 8] [] [0, 1, 2, 3, 4, 5, 6, 7, 8] rfl rfl (by decide) (by decide) (by decide) (fun _ => rfl) (fun r_1 _ H locs hw hP hD hS => ?_)
  have er_1 := hw
  refine lv_istore (lv' := [(5, .int r_1), (0, .ref (h 20)), (1, .int p0), (2, .int p1), (3, .int p2), (4, .int p3)]) hx hb d_D_middle_9 hl (by decide) rfl (fun ls hl => ?_)
  refine lv_iload_n hx hb d_D_middle_11 rfl (lv_at hl 3 rfl) ?_
  refine lv_bipush (v := (32 : Int32)) hx hb d_D_middle_12 (by decide) ?_
  refine lv_icmp_ge (tgt := 30) hx hb d_D_middle_14 (by decide) (fun c_2 => ?_) (fun c_2 => ?_)
  · refine lv_iload_n hx hb d_D_middle_30 rfl (lv_at hl 3 rfl) ?_
    by_cases c_4 : p1 = (36 : Int32)
    · refine lv_tableIn (tgt := 148) hx hb d_D_middle_31 (by rw [c_4]; decide) (by rw [c_4]; decide) (by rw [c_4]; rfl) (by decide) ?_
      refine lv_iload hx hb d_D_middle_148 (lv_at hl 0 rfl) ?_
      refine lv_iconst (v := (1 : Int32)) hx hb d_D_middle_150 (by decide) ?_
      refine lv_iushr (v := zushr r_1 (1 : Int32)) hx hb d_D_middle_151 rfl ?_
      refine lv_aload_n hx hb d_D_middle_152 rfl (lv_at hl 1 rfl) ?_
      refine va_get (D := D) (ci := 6) (v := .int (st.1 13)) (C := "WindowMachineModel") (T := T_D) (N := 31) hx hb ht zi_D hown hK hP 0 rfl rfl 21 (by decide) (ht _ zw_875) (fun _ h9 => h9) rfl d_D_middle_153 ?_
      refine lv_aload_n hx hb d_D_middle_156 rfl (lv_at hl 1 rfl) ?_
      refine va_get (D := D) (ci := 6) (v := .int (st.1 15)) (C := "WindowMachineModel") (T := T_D) (N := 31) hx hb ht zi_D hown hK hP 0 rfl rfl 23 (by decide) (ht _ zw_877) (fun _ h9 => h9) rfl d_D_middle_157 ?_
      refine zcut (X := Int32) (G := fun v9 H locs ls => v9 = (if (st.1 13) = (st.1 15) then (0 : Int32) else (1 : Int32)) ∧ va_P D vwCl (wD h c st) H ∧ va_D A (wD h c st) ∧ va_S A s.heap H locs ∧ lv_has ls 9 [(0, .ref (h 20)), (1, .int p0), (2, .int p1), (3, .int p2), (4, .int p3), (5, .int r_1)]) (fr := fun v9 ls => F0 m 168 ls [.int v9, .int (zushr r_1 (1 : Int32))]) (fun J_6 => ?_) (fun v9 H locs ls hG => ?_)
      · refine lv_icmp_eq (tgt := 167) hx hb d_D_middle_160 (by decide) (fun c_7 => ?_) (fun c_7 => ?_)
        · refine lv_iconst (v := (0 : Int32)) hx hb d_D_middle_167 (by decide) ?_
          exact J_6 (0 : Int32) _ _ _ ⟨by simp only [if_pos c_7], hP, hD, hS, (lv_sub hl [1, 2, 3, 4, 5, 0] rfl)⟩
        refine lv_iconst (v := (1 : Int32)) hx hb d_D_middle_163 (by decide) ?_
        refine lv_goto (tgt := 168) hx hb d_D_middle_164 (by decide) ?_
        exact J_6 (1 : Int32) _ _ _ ⟨by simp only [if_neg c_7], hP, hD, hS, (lv_sub hl [1, 2, 3, 4, 5, 0] rfl)⟩
      obtain ⟨x_5, rfl⟩ : ∃ z, z = v9 := ⟨_, rfl⟩
      obtain ⟨ex_5, hP, hD, hS, hl⟩ := hG
      have zbx_5 : zB x_5 := by rw [ex_5]; repeat' first | with_reducible exact zB0 | with_reducible exact zB1 | with_reducible assumption | with_reducible refine zB_ite ?_ ?_
      refine zc_i (w2 := fun _ => wD h c st) (va_runS (As := [.int x_5]) (rest := [.int (zushr r_1 (1 : Int32))]) ⟨hx, hb, hml, hown, ht⟩ (mt_D_bit l D H.size x_5) (cwS 1 ht (zgS zw_1043 zw_1044 zw_7 zw_1045) rfl rfl rfl kd_D_bit ⟨Nat.le_of_ble_eq_true rfl, Nat.le_of_ble_eq_true rfl⟩) ⟨zw_blind zw_tt, zw_go (hP.sub (ws' := []) [] rfl) (hD.sub (ws' := []) [] (by decide) rfl) (hK.sub (tys' := []) [] rfl) (fun _ _ _ => trivial)⟩ rfl rfl hl.1 rfl (lv_room (Nat.le_of_ble_eq_true rfl)) d_D_middle_168 ⟨Nat.le_of_ble_eq_true rfl, Nat.le_of_ble_eq_true rfl⟩) hP hD hS hA [] [0, 1, 2, 3, 4, 5, 6, 7, 8] [0, 1, 2, 3, 4, 5, 6, 7, 8] rfl rfl (by decide) (by decide) (by decide) (fun _ => rfl) (fun r_8 _ H locs hw hP hD hS => ?_)
      have er_8 := hw
      refine lv_bipush (v := (31 : Int32)) hx hb d_D_middle_171 (by decide) ?_
      refine lv_ishl hx hb d_D_middle_173 ?_
      refine lv_ior hx hb d_D_middle_174 ?_
      refine lv_topi (fun x_9 ex_9 => ?_)
      refine lv_istore (lv' := [(6, .int x_9), (0, .ref (h 20)), (1, .int p0), (2, .int p1), (3, .int p2), (4, .int p3), (5, .int r_1)]) hx hb d_D_middle_175 hl (by decide) rfl (fun ls hl => ?_)
      refine lv_aload_n hx hb d_D_middle_177 rfl (lv_at hl 1 rfl) ?_
      refine va_get (D := D) (ci := 6) (v := .int (st.1 7)) (C := "WindowMachineModel") (T := T_D) (N := 31) hx hb ht zi_D hown hK hP 0 rfl rfl 15 (by decide) (ht _ zw_869) (fun _ h9 => h9) rfl d_D_middle_178 ?_
      refine lv_iconst (v := (1 : Int32)) hx hb d_D_middle_181 (by decide) ?_
      refine lv_iand hx hb d_D_middle_182 ?_
      refine zcut (X := Int32) (G := fun v9 H locs ls => v9 = (if ((st.1 7) &&& (1 : Int32)) = (0 : Int32) then (0 : Int32) else p3) ∧ va_P D vwCl (wD h c st) H ∧ va_D A (wD h c st) ∧ va_S A s.heap H locs ∧ lv_has ls 9 [(0, .ref (h 20)), (1, .int p0), (2, .int p1), (3, .int p2), (4, .int p3), (5, .int r_1), (6, .int x_9)]) (fr := fun v9 ls => F0 m 192 ls [.int v9]) (fun J_11 => ?_) (fun v9 H locs ls hG => ?_)
      · refine lv_if_ne (tgt := 190) hx hb d_D_middle_183 (by decide) (fun c_12 => ?_) (fun c_12 => ?_)
        · refine lv_iload hx hb d_D_middle_190 (lv_at hl 5 rfl) ?_
          exact J_11 p3 _ _ _ ⟨by simp only [if_neg c_12], hP, hD, hS, (lv_sub hl [1, 2, 3, 4, 5, 6, 0] rfl)⟩
        refine lv_iconst (v := (0 : Int32)) hx hb d_D_middle_186 (by decide) ?_
        refine lv_goto (tgt := 192) hx hb d_D_middle_187 (by decide) ?_
        exact J_11 (0 : Int32) _ _ _ ⟨by simp only [if_pos c_12], hP, hD, hS, (lv_sub hl [1, 2, 3, 4, 5, 6, 0] rfl)⟩
      obtain ⟨x_10, rfl⟩ : ∃ z, z = v9 := ⟨_, rfl⟩
      obtain ⟨ex_10, hP, hD, hS, hl⟩ := hG
      refine lv_istore (lv' := [(7, .int x_10), (0, .ref (h 20)), (1, .int p0), (2, .int p1), (3, .int p2), (4, .int p3), (5, .int r_1), (6, .int x_9)]) hx hb d_D_middle_192 hl (by decide) rfl (fun ls hl => ?_)
      refine lv_aload_n hx hb d_D_middle_194 rfl (lv_at hl 1 rfl) ?_
      refine lv_aload_n hx hb d_D_middle_195 rfl (lv_at hl 1 rfl) ?_
      refine va_get (D := D) (ci := 6) (v := .int (st.1 7)) (C := "WindowMachineModel") (T := T_D) (N := 31) hx hb ht zi_D hown hK hP 0 rfl rfl 15 (by decide) (ht _ zw_869) (fun _ h9 => h9) rfl d_D_middle_196 ?_
      refine lv_iconst (v := (1 : Int32)) hx hb d_D_middle_199 (by decide) ?_
      refine lv_iushr (v := zushr (st.1 7) (1 : Int32)) hx hb d_D_middle_200 rfl ?_
      refine lv_iload hx hb d_D_middle_201 (lv_at hl 6 rfl) ?_
      refine lv_bipush (v := (31 : Int32)) hx hb d_D_middle_203 (by decide) ?_
      refine lv_ishl hx hb d_D_middle_205 ?_
      refine lv_ior hx hb d_D_middle_206 ?_
      refine va_put (D := D) (ci := 6) (v := .int ((zushr (st.1 7) (1 : Int32)) ||| (r_1 <<< ((31 : Int32) &&& 31)))) (ty := .int) (C := "WindowMachineModel") (T := T_D) (N := 31) hx hb ht zi_D ty_D tyok_D nm_D hown hK hP hD hS 0 rfl rfl 15 (by decide) (ht _ zw_869) (fun _ h9 => h9) rfl (by decide +kernel) rfl rfl (Nat.le_of_ble_eq_true rfl) d_D_middle_207 (fun H locs hP hD hS => ?_)
      have hP : va_P D vwCl (wD h c (upd st.1 7 ((zushr (st.1 7) (1 : Int32)) ||| (r_1 <<< ((31 : Int32) &&& 31))), st.2.1, st.2.2.1, st.2.2.2.1, st.2.2.2.2.1, st.2.2.2.2.2)) H := hP
      have hD : va_D A (wD h c (upd st.1 7 ((zushr (st.1 7) (1 : Int32)) ||| (r_1 <<< ((31 : Int32) &&& 31))), st.2.1, st.2.2.1, st.2.2.2.1, st.2.2.2.2.1, st.2.2.2.2.2)) := hD
      refine lv_aload_n hx hb d_D_middle_210 rfl (lv_at hl 1 rfl) ?_
      refine lv_iload_n hx hb d_D_middle_211 rfl (lv_at hl 2 rfl) ?_
      refine lv_iload hx hb d_D_middle_212 (lv_at hl 7 rfl) ?_
      refine lv_iload hx hb d_D_middle_214 (lv_at hl 0 rfl) ?_
      refine lv_iconst (v := (0 : Int32)) hx hb d_D_middle_216 (by decide) ?_
      refine lv_iconst (v := (1 : Int32)) hx hb d_D_middle_217 (by decide) ?_
      refine zc_v (w2 := fun u9 => wD h c u9) (va_runV (As := [.int p0, .int x_9, .int x_10, .int (0 : Int32), .int (1 : Int32)]) (rest := []) ⟨hx, hb, hml, hown, ht⟩ (mt_D_adds l D h c H.size (upd st.1 7 ((zushr (st.1 7) (1 : Int32)) ||| (r_1 <<< ((31 : Int32) &&& 31))), st.2.1, st.2.2.1, st.2.2.2.1, st.2.2.2.2.1, st.2.2.2.2.2) p0 x_9 x_10 (0 : Int32) (1 : Int32) hV hr9) (cwV 5 ht (zgV zw_1031 zw_1033 zs_65 zw_7 zw_1034) rfl rfl rfl kd_D_adds ⟨Nat.le_of_ble_eq_true rfl, Nat.le_of_ble_eq_true rfl⟩) ⟨zw_blind zw_tt, va_recv (hK.sub (tys' := [(c 21, .long), (c 22, .int), (c 23, .int), (c 24, .int), (c 25, .int), (c 26, .int), (c 27, .int), (c 28, .int)]) [0, 1, 2, 3, 4, 5, 6, 7] rfl) (hP.sub (ws' := wD h c (upd st.1 7 ((zushr (st.1 7) (1 : Int32)) ||| (r_1 <<< ((31 : Int32) &&& 31))), st.2.1, st.2.2.1, st.2.2.2.1, st.2.2.2.2.1, st.2.2.2.2.2)) [0, 1, 2, 3, 4, 5, 6, 7, 8] rfl) (ci := 6) (q0 := 0) rfl rfl, zw_go (hP.sub (ws' := wD h c (upd st.1 7 ((zushr (st.1 7) (1 : Int32)) ||| (r_1 <<< ((31 : Int32) &&& 31))), st.2.1, st.2.2.1, st.2.2.2.1, st.2.2.2.2.1, st.2.2.2.2.2)) [0, 1, 2, 3, 4, 5, 6, 7, 8] rfl) (hD.sub (ws' := wD h c (upd st.1 7 ((zushr (st.1 7) (1 : Int32)) ||| (r_1 <<< ((31 : Int32) &&& 31))), st.2.1, st.2.2.1, st.2.2.2.1, st.2.2.2.2.1, st.2.2.2.2.2)) [0, 1, 2, 3, 4, 5, 6, 7, 8] (by decide) rfl) (hK.sub (tys' := [(c 21, .long), (c 22, .int), (c 23, .int), (c 24, .int), (c 25, .int), (c 26, .int), (c 27, .int), (c 28, .int)]) [0, 1, 2, 3, 4, 5, 6, 7] rfl) (fun _ _ _ => trivial)⟩ rfl rfl hl.1 rfl (lv_room (Nat.le_of_ble_eq_true rfl)) d_D_middle_218 ⟨Nat.le_of_ble_eq_true rfl, Nat.le_of_ble_eq_true rfl⟩) hP hD hS hA [0, 1, 2, 3, 4, 5, 6, 7, 8] [] [0, 1, 2, 3, 4, 5, 6, 7, 8] rfl rfl (by decide) (by decide) (by decide) (fun _ => rfl) (fun u_13 H locs hw hP hD hS => ?_)
      have eu_13 := hw
      have ok_13 : okV u_13 := by rw [eu_13]; exact (ov_adds hV)
      refine lv_goto (tgt := 492) hx hb d_D_middle_221 (by decide) ?_
      exact zl_v (u := u_13) hx hb hr hlocks hS hP hD (by simp only [m_middle, ← er_1, ← ex_5, ← er_8, ← ex_9, ← ex_10, ← eu_13]; try simp only [if_pos c_2, if_pos c_4]) d_D_middle_492
    by_cases c_14 : p1 = (37 : Int32)
    · refine lv_tableIn (tgt := 224) hx hb d_D_middle_31 (by rw [c_14]; decide) (by rw [c_14]; decide) (by rw [c_14]; rfl) (by decide) ?_
      refine lv_aload_n hx hb d_D_middle_224 rfl (lv_at hl 1 rfl) ?_
      refine lv_iload_n hx hb d_D_middle_225 rfl (lv_at hl 2 rfl) ?_
      refine lv_aload_n hx hb d_D_middle_226 rfl (lv_at hl 1 rfl) ?_
      refine va_get (D := D) (ci := 6) (v := .int (st.1 6)) (C := "WindowMachineModel") (T := T_D) (N := 31) hx hb ht zi_D hown hK hP 0 rfl rfl 14 (by decide) (ht _ zw_868) (fun _ h9 => h9) rfl d_D_middle_227 ?_
      refine lv_iload hx hb d_D_middle_230 (lv_at hl 0 rfl) ?_
      refine lv_iload hx hb d_D_middle_232 (lv_at hl 5 rfl) ?_
      refine lv_bipush (v := (31 : Int32)) hx hb d_D_middle_234 (by decide) ?_
      refine lv_iand hx hb d_D_middle_236 ?_
      refine lv_ishl hx hb d_D_middle_237 ?_
      refine zc_v (w2 := fun u9 => wD h c u9) (va_runV (As := [.int p0, .int (st.1 6), .int (r_1 <<< ((p3 &&& (31 : Int32)) &&& 31))]) (rest := []) ⟨hx, hb, hml, hown, ht⟩ (mt_D_gives l D h c H.size st p0 (st.1 6) (r_1 <<< ((p3 &&& (31 : Int32)) &&& 31)) hr9 (hV).1) (cwV 3 ht (zgV zw_990 zw_992 zs_57 zw_7 zw_993) rfl rfl rfl kd_D_gives ⟨Nat.le_of_ble_eq_true rfl, Nat.le_of_ble_eq_true rfl⟩) ⟨zw_blind zw_tt, va_recv (hK.sub (tys' := [(c 21, .long), (c 22, .int), (c 23, .int), (c 24, .int), (c 25, .int), (c 26, .int), (c 27, .int), (c 28, .int)]) [0, 1, 2, 3, 4, 5, 6, 7] rfl) (hP.sub (ws' := wD h c st) [0, 1, 2, 3, 4, 5, 6, 7, 8] rfl) (ci := 6) (q0 := 0) rfl rfl, zw_go (hP.sub (ws' := wD h c st) [0, 1, 2, 3, 4, 5, 6, 7, 8] rfl) (hD.sub (ws' := wD h c st) [0, 1, 2, 3, 4, 5, 6, 7, 8] (by decide) rfl) (hK.sub (tys' := [(c 21, .long), (c 22, .int), (c 23, .int), (c 24, .int), (c 25, .int), (c 26, .int), (c 27, .int), (c 28, .int)]) [0, 1, 2, 3, 4, 5, 6, 7] rfl) (fun _ _ _ => trivial)⟩ rfl rfl hl.1 rfl (lv_room (Nat.le_of_ble_eq_true rfl)) d_D_middle_238 ⟨Nat.le_of_ble_eq_true rfl, Nat.le_of_ble_eq_true rfl⟩) hP hD hS hA [0, 1, 2, 3, 4, 5, 6, 7, 8] [] [0, 1, 2, 3, 4, 5, 6, 7, 8] rfl rfl (by decide) (by decide) (by decide) (fun _ => rfl) (fun u_15 H locs hw hP hD hS => ?_)
      have eu_15 := hw
      have ok_15 : okV u_15 := by rw [eu_15]; exact (ov_gives hV)
      refine lv_goto (tgt := 492) hx hb d_D_middle_241 (by decide) ?_
      exact zl_v (u := u_15) hx hb hr hlocks hS hP hD (by simp only [m_middle, ← er_1, ← eu_15]; try simp only [if_pos c_2, if_neg c_4, if_pos c_14]) d_D_middle_492
    by_cases c_16 : p1 = (38 : Int32)
    · refine lv_tableIn (tgt := 244) hx hb d_D_middle_31 (by rw [c_16]; decide) (by rw [c_16]; decide) (by rw [c_16]; rfl) (by decide) ?_
      refine lv_aload_n hx hb d_D_middle_244 rfl (lv_at hl 1 rfl) ?_
      refine lv_iload_n hx hb d_D_middle_245 rfl (lv_at hl 2 rfl) ?_
      refine lv_aload_n hx hb d_D_middle_246 rfl (lv_at hl 1 rfl) ?_
      refine va_get (D := D) (ci := 6) (v := .int (st.1 6)) (C := "WindowMachineModel") (T := T_D) (N := 31) hx hb ht zi_D hown hK hP 0 rfl rfl 14 (by decide) (ht _ zw_868) (fun _ h9 => h9) rfl d_D_middle_247 ?_
      refine lv_iload hx hb d_D_middle_250 (lv_at hl 0 rfl) ?_
      refine lv_iload hx hb d_D_middle_252 (lv_at hl 5 rfl) ?_
      refine lv_bipush (v := (31 : Int32)) hx hb d_D_middle_254 (by decide) ?_
      refine lv_iand hx hb d_D_middle_256 ?_
      refine lv_iushr (v := zushr r_1 (p3 &&& (31 : Int32))) hx hb d_D_middle_257 rfl ?_
      refine zc_v (w2 := fun u9 => wD h c u9) (va_runV (As := [.int p0, .int (st.1 6), .int (zushr r_1 (p3 &&& (31 : Int32)))]) (rest := []) ⟨hx, hb, hml, hown, ht⟩ (mt_D_gives l D h c H.size st p0 (st.1 6) (zushr r_1 (p3 &&& (31 : Int32))) hr9 (hV).1) (cwV 3 ht (zgV zw_990 zw_992 zs_57 zw_7 zw_993) rfl rfl rfl kd_D_gives ⟨Nat.le_of_ble_eq_true rfl, Nat.le_of_ble_eq_true rfl⟩) ⟨zw_blind zw_tt, va_recv (hK.sub (tys' := [(c 21, .long), (c 22, .int), (c 23, .int), (c 24, .int), (c 25, .int), (c 26, .int), (c 27, .int), (c 28, .int)]) [0, 1, 2, 3, 4, 5, 6, 7] rfl) (hP.sub (ws' := wD h c st) [0, 1, 2, 3, 4, 5, 6, 7, 8] rfl) (ci := 6) (q0 := 0) rfl rfl, zw_go (hP.sub (ws' := wD h c st) [0, 1, 2, 3, 4, 5, 6, 7, 8] rfl) (hD.sub (ws' := wD h c st) [0, 1, 2, 3, 4, 5, 6, 7, 8] (by decide) rfl) (hK.sub (tys' := [(c 21, .long), (c 22, .int), (c 23, .int), (c 24, .int), (c 25, .int), (c 26, .int), (c 27, .int), (c 28, .int)]) [0, 1, 2, 3, 4, 5, 6, 7] rfl) (fun _ _ _ => trivial)⟩ rfl rfl hl.1 rfl (lv_room (Nat.le_of_ble_eq_true rfl)) d_D_middle_258 ⟨Nat.le_of_ble_eq_true rfl, Nat.le_of_ble_eq_true rfl⟩) hP hD hS hA [0, 1, 2, 3, 4, 5, 6, 7, 8] [] [0, 1, 2, 3, 4, 5, 6, 7, 8] rfl rfl (by decide) (by decide) (by decide) (fun _ => rfl) (fun u_17 H locs hw hP hD hS => ?_)
      have eu_17 := hw
      have ok_17 : okV u_17 := by rw [eu_17]; exact (ov_gives hV)
      refine lv_goto (tgt := 492) hx hb d_D_middle_261 (by decide) ?_
      exact zl_v (u := u_17) hx hb hr hlocks hS hP hD (by simp only [m_middle, ← er_1, ← eu_17]; try simp only [if_pos c_2, if_neg c_4, if_neg c_14, if_pos c_16]) d_D_middle_492
    by_cases c_18 : p1 = (39 : Int32)
    · refine lv_tableIn (tgt := 264) hx hb d_D_middle_31 (by rw [c_18]; decide) (by rw [c_18]; decide) (by rw [c_18]; rfl) (by decide) ?_
      refine lv_aload_n hx hb d_D_middle_264 rfl (lv_at hl 1 rfl) ?_
      refine lv_iload_n hx hb d_D_middle_265 rfl (lv_at hl 2 rfl) ?_
      refine lv_aload_n hx hb d_D_middle_266 rfl (lv_at hl 1 rfl) ?_
      refine va_get (D := D) (ci := 6) (v := .int (st.1 6)) (C := "WindowMachineModel") (T := T_D) (N := 31) hx hb ht zi_D hown hK hP 0 rfl rfl 14 (by decide) (ht _ zw_868) (fun _ h9 => h9) rfl d_D_middle_267 ?_
      refine lv_iload hx hb d_D_middle_270 (lv_at hl 0 rfl) ?_
      refine lv_iload hx hb d_D_middle_272 (lv_at hl 5 rfl) ?_
      refine lv_bipush (v := (31 : Int32)) hx hb d_D_middle_274 (by decide) ?_
      refine lv_iand hx hb d_D_middle_276 ?_
      refine lv_ishr hx hb d_D_middle_277 ?_
      refine zc_v (w2 := fun u9 => wD h c u9) (va_runV (As := [.int p0, .int (st.1 6), .int (r_1 >>> ((p3 &&& (31 : Int32)) &&& 31))]) (rest := []) ⟨hx, hb, hml, hown, ht⟩ (mt_D_gives l D h c H.size st p0 (st.1 6) (r_1 >>> ((p3 &&& (31 : Int32)) &&& 31)) hr9 (hV).1) (cwV 3 ht (zgV zw_990 zw_992 zs_57 zw_7 zw_993) rfl rfl rfl kd_D_gives ⟨Nat.le_of_ble_eq_true rfl, Nat.le_of_ble_eq_true rfl⟩) ⟨zw_blind zw_tt, va_recv (hK.sub (tys' := [(c 21, .long), (c 22, .int), (c 23, .int), (c 24, .int), (c 25, .int), (c 26, .int), (c 27, .int), (c 28, .int)]) [0, 1, 2, 3, 4, 5, 6, 7] rfl) (hP.sub (ws' := wD h c st) [0, 1, 2, 3, 4, 5, 6, 7, 8] rfl) (ci := 6) (q0 := 0) rfl rfl, zw_go (hP.sub (ws' := wD h c st) [0, 1, 2, 3, 4, 5, 6, 7, 8] rfl) (hD.sub (ws' := wD h c st) [0, 1, 2, 3, 4, 5, 6, 7, 8] (by decide) rfl) (hK.sub (tys' := [(c 21, .long), (c 22, .int), (c 23, .int), (c 24, .int), (c 25, .int), (c 26, .int), (c 27, .int), (c 28, .int)]) [0, 1, 2, 3, 4, 5, 6, 7] rfl) (fun _ _ _ => trivial)⟩ rfl rfl hl.1 rfl (lv_room (Nat.le_of_ble_eq_true rfl)) d_D_middle_278 ⟨Nat.le_of_ble_eq_true rfl, Nat.le_of_ble_eq_true rfl⟩) hP hD hS hA [0, 1, 2, 3, 4, 5, 6, 7, 8] [] [0, 1, 2, 3, 4, 5, 6, 7, 8] rfl rfl (by decide) (by decide) (by decide) (fun _ => rfl) (fun u_19 H locs hw hP hD hS => ?_)
      have eu_19 := hw
      have ok_19 : okV u_19 := by rw [eu_19]; exact (ov_gives hV)
      refine lv_goto (tgt := 492) hx hb d_D_middle_281 (by decide) ?_
      exact zl_v (u := u_19) hx hb hr hlocks hS hP hD (by simp only [m_middle, ← er_1, ← eu_19]; try simp only [if_pos c_2, if_neg c_4, if_neg c_14, if_neg c_16, if_pos c_18]) d_D_middle_492
    by_cases c_20 : p1 = (40 : Int32)
    · refine lv_tableIn (tgt := 284) hx hb d_D_middle_31 (by rw [c_20]; decide) (by rw [c_20]; decide) (by rw [c_20]; rfl) (by decide) ?_
      refine lv_aload_n hx hb d_D_middle_284 rfl (lv_at hl 1 rfl) ?_
      refine lv_iload_n hx hb d_D_middle_285 rfl (lv_at hl 3 rfl) ?_
      refine lv_iload_n hx hb d_D_middle_286 rfl (lv_at hl 2 rfl) ?_
      refine lv_iload_n hx hb d_D_middle_287 rfl (lv_at hl 4 rfl) ?_
      refine lv_iload hx hb d_D_middle_288 (lv_at hl 0 rfl) ?_
      refine lv_iload hx hb d_D_middle_290 (lv_at hl 5 rfl) ?_
      refine zc_v (w2 := fun u9 => wD h c u9) (va_runV (As := [.int p1, .int p0, .int p2, .int r_1, .int p3]) (rest := []) ⟨hx, hb, hml, hown, ht⟩ (mt_D_special l D h c H.size st p1 p0 p2 r_1 p3 hV hr9) (cwV 5 ht (zgV zw_1062 zw_1064 zs_69 zw_7 zw_1065) rfl rfl rfl kd_D_special ⟨Nat.le_of_ble_eq_true rfl, Nat.le_of_ble_eq_true rfl⟩) ⟨zw_blind zw_tt, va_recv (hK.sub (tys' := [(c 21, .long), (c 22, .int), (c 23, .int), (c 24, .int), (c 25, .int), (c 26, .int), (c 27, .int), (c 28, .int)]) [0, 1, 2, 3, 4, 5, 6, 7] rfl) (hP.sub (ws' := wD h c st) [0, 1, 2, 3, 4, 5, 6, 7, 8] rfl) (ci := 6) (q0 := 0) rfl rfl, zw_go (hP.sub (ws' := wD h c st) [0, 1, 2, 3, 4, 5, 6, 7, 8] rfl) (hD.sub (ws' := wD h c st) [0, 1, 2, 3, 4, 5, 6, 7, 8] (by decide) rfl) (hK.sub (tys' := [(c 21, .long), (c 22, .int), (c 23, .int), (c 24, .int), (c 25, .int), (c 26, .int), (c 27, .int), (c 28, .int)]) [0, 1, 2, 3, 4, 5, 6, 7] rfl) (fun _ _ _ => trivial)⟩ rfl rfl hl.1 rfl (lv_room (Nat.le_of_ble_eq_true rfl)) d_D_middle_292 ⟨Nat.le_of_ble_eq_true rfl, Nat.le_of_ble_eq_true rfl⟩) hP hD hS hA [0, 1, 2, 3, 4, 5, 6, 7, 8] [] [0, 1, 2, 3, 4, 5, 6, 7, 8] rfl rfl (by decide) (by decide) (by decide) (fun _ => rfl) (fun u_21 H locs hw hP hD hS => ?_)
      have eu_21 := hw
      refine lv_goto (tgt := 492) hx hb d_D_middle_295 (by decide) ?_
      exact zl_v (u := u_21) hx hb hr hlocks hS hP hD (by simp only [m_middle, ← er_1, ← eu_21]; try simp only [if_pos c_2, if_neg c_4, if_neg c_14, if_neg c_16, if_neg c_18, if_pos c_20]) d_D_middle_492
    by_cases c_22 : p1 = (41 : Int32)
    · refine lv_tableIn (tgt := 284) hx hb d_D_middle_31 (by rw [c_22]; decide) (by rw [c_22]; decide) (by rw [c_22]; rfl) (by decide) ?_
      refine lv_aload_n hx hb d_D_middle_284 rfl (lv_at hl 1 rfl) ?_
      refine lv_iload_n hx hb d_D_middle_285 rfl (lv_at hl 3 rfl) ?_
      refine lv_iload_n hx hb d_D_middle_286 rfl (lv_at hl 2 rfl) ?_
      refine lv_iload_n hx hb d_D_middle_287 rfl (lv_at hl 4 rfl) ?_
      refine lv_iload hx hb d_D_middle_288 (lv_at hl 0 rfl) ?_
      refine lv_iload hx hb d_D_middle_290 (lv_at hl 5 rfl) ?_
      refine zc_v (w2 := fun u9 => wD h c u9) (va_runV (As := [.int p1, .int p0, .int p2, .int r_1, .int p3]) (rest := []) ⟨hx, hb, hml, hown, ht⟩ (mt_D_special l D h c H.size st p1 p0 p2 r_1 p3 hV hr9) (cwV 5 ht (zgV zw_1062 zw_1064 zs_69 zw_7 zw_1065) rfl rfl rfl kd_D_special ⟨Nat.le_of_ble_eq_true rfl, Nat.le_of_ble_eq_true rfl⟩) ⟨zw_blind zw_tt, va_recv (hK.sub (tys' := [(c 21, .long), (c 22, .int), (c 23, .int), (c 24, .int), (c 25, .int), (c 26, .int), (c 27, .int), (c 28, .int)]) [0, 1, 2, 3, 4, 5, 6, 7] rfl) (hP.sub (ws' := wD h c st) [0, 1, 2, 3, 4, 5, 6, 7, 8] rfl) (ci := 6) (q0 := 0) rfl rfl, zw_go (hP.sub (ws' := wD h c st) [0, 1, 2, 3, 4, 5, 6, 7, 8] rfl) (hD.sub (ws' := wD h c st) [0, 1, 2, 3, 4, 5, 6, 7, 8] (by decide) rfl) (hK.sub (tys' := [(c 21, .long), (c 22, .int), (c 23, .int), (c 24, .int), (c 25, .int), (c 26, .int), (c 27, .int), (c 28, .int)]) [0, 1, 2, 3, 4, 5, 6, 7] rfl) (fun _ _ _ => trivial)⟩ rfl rfl hl.1 rfl (lv_room (Nat.le_of_ble_eq_true rfl)) d_D_middle_292 ⟨Nat.le_of_ble_eq_true rfl, Nat.le_of_ble_eq_true rfl⟩) hP hD hS hA [0, 1, 2, 3, 4, 5, 6, 7, 8] [] [0, 1, 2, 3, 4, 5, 6, 7, 8] rfl rfl (by decide) (by decide) (by decide) (fun _ => rfl) (fun u_23 H locs hw hP hD hS => ?_)
      have eu_23 := hw
      refine lv_goto (tgt := 492) hx hb d_D_middle_295 (by decide) ?_
      exact zl_v (u := u_23) hx hb hr hlocks hS hP hD (by simp only [m_middle, ← er_1, ← eu_23]; try simp only [if_pos c_2, if_neg c_4, if_neg c_14, if_neg c_16, if_neg c_18, if_neg c_20, if_pos c_22]) d_D_middle_492
    by_cases c_24 : p1 = (42 : Int32)
    · refine lv_tableIn (tgt := 284) hx hb d_D_middle_31 (by rw [c_24]; decide) (by rw [c_24]; decide) (by rw [c_24]; rfl) (by decide) ?_
      refine lv_aload_n hx hb d_D_middle_284 rfl (lv_at hl 1 rfl) ?_
      refine lv_iload_n hx hb d_D_middle_285 rfl (lv_at hl 3 rfl) ?_
      refine lv_iload_n hx hb d_D_middle_286 rfl (lv_at hl 2 rfl) ?_
      refine lv_iload_n hx hb d_D_middle_287 rfl (lv_at hl 4 rfl) ?_
      refine lv_iload hx hb d_D_middle_288 (lv_at hl 0 rfl) ?_
      refine lv_iload hx hb d_D_middle_290 (lv_at hl 5 rfl) ?_
      refine zc_v (w2 := fun u9 => wD h c u9) (va_runV (As := [.int p1, .int p0, .int p2, .int r_1, .int p3]) (rest := []) ⟨hx, hb, hml, hown, ht⟩ (mt_D_special l D h c H.size st p1 p0 p2 r_1 p3 hV hr9) (cwV 5 ht (zgV zw_1062 zw_1064 zs_69 zw_7 zw_1065) rfl rfl rfl kd_D_special ⟨Nat.le_of_ble_eq_true rfl, Nat.le_of_ble_eq_true rfl⟩) ⟨zw_blind zw_tt, va_recv (hK.sub (tys' := [(c 21, .long), (c 22, .int), (c 23, .int), (c 24, .int), (c 25, .int), (c 26, .int), (c 27, .int), (c 28, .int)]) [0, 1, 2, 3, 4, 5, 6, 7] rfl) (hP.sub (ws' := wD h c st) [0, 1, 2, 3, 4, 5, 6, 7, 8] rfl) (ci := 6) (q0 := 0) rfl rfl, zw_go (hP.sub (ws' := wD h c st) [0, 1, 2, 3, 4, 5, 6, 7, 8] rfl) (hD.sub (ws' := wD h c st) [0, 1, 2, 3, 4, 5, 6, 7, 8] (by decide) rfl) (hK.sub (tys' := [(c 21, .long), (c 22, .int), (c 23, .int), (c 24, .int), (c 25, .int), (c 26, .int), (c 27, .int), (c 28, .int)]) [0, 1, 2, 3, 4, 5, 6, 7] rfl) (fun _ _ _ => trivial)⟩ rfl rfl hl.1 rfl (lv_room (Nat.le_of_ble_eq_true rfl)) d_D_middle_292 ⟨Nat.le_of_ble_eq_true rfl, Nat.le_of_ble_eq_true rfl⟩) hP hD hS hA [0, 1, 2, 3, 4, 5, 6, 7, 8] [] [0, 1, 2, 3, 4, 5, 6, 7, 8] rfl rfl (by decide) (by decide) (by decide) (fun _ => rfl) (fun u_25 H locs hw hP hD hS => ?_)
      have eu_25 := hw
      refine lv_goto (tgt := 492) hx hb d_D_middle_295 (by decide) ?_
      exact zl_v (u := u_25) hx hb hr hlocks hS hP hD (by simp only [m_middle, ← er_1, ← eu_25]; try simp only [if_pos c_2, if_neg c_4, if_neg c_14, if_neg c_16, if_neg c_18, if_neg c_20, if_neg c_22, if_pos c_24]) d_D_middle_492
    by_cases c_26 : p1 = (43 : Int32)
    · refine lv_tableIn (tgt := 284) hx hb d_D_middle_31 (by rw [c_26]; decide) (by rw [c_26]; decide) (by rw [c_26]; rfl) (by decide) ?_
      refine lv_aload_n hx hb d_D_middle_284 rfl (lv_at hl 1 rfl) ?_
      refine lv_iload_n hx hb d_D_middle_285 rfl (lv_at hl 3 rfl) ?_
      refine lv_iload_n hx hb d_D_middle_286 rfl (lv_at hl 2 rfl) ?_
      refine lv_iload_n hx hb d_D_middle_287 rfl (lv_at hl 4 rfl) ?_
      refine lv_iload hx hb d_D_middle_288 (lv_at hl 0 rfl) ?_
      refine lv_iload hx hb d_D_middle_290 (lv_at hl 5 rfl) ?_
      refine zc_v (w2 := fun u9 => wD h c u9) (va_runV (As := [.int p1, .int p0, .int p2, .int r_1, .int p3]) (rest := []) ⟨hx, hb, hml, hown, ht⟩ (mt_D_special l D h c H.size st p1 p0 p2 r_1 p3 hV hr9) (cwV 5 ht (zgV zw_1062 zw_1064 zs_69 zw_7 zw_1065) rfl rfl rfl kd_D_special ⟨Nat.le_of_ble_eq_true rfl, Nat.le_of_ble_eq_true rfl⟩) ⟨zw_blind zw_tt, va_recv (hK.sub (tys' := [(c 21, .long), (c 22, .int), (c 23, .int), (c 24, .int), (c 25, .int), (c 26, .int), (c 27, .int), (c 28, .int)]) [0, 1, 2, 3, 4, 5, 6, 7] rfl) (hP.sub (ws' := wD h c st) [0, 1, 2, 3, 4, 5, 6, 7, 8] rfl) (ci := 6) (q0 := 0) rfl rfl, zw_go (hP.sub (ws' := wD h c st) [0, 1, 2, 3, 4, 5, 6, 7, 8] rfl) (hD.sub (ws' := wD h c st) [0, 1, 2, 3, 4, 5, 6, 7, 8] (by decide) rfl) (hK.sub (tys' := [(c 21, .long), (c 22, .int), (c 23, .int), (c 24, .int), (c 25, .int), (c 26, .int), (c 27, .int), (c 28, .int)]) [0, 1, 2, 3, 4, 5, 6, 7] rfl) (fun _ _ _ => trivial)⟩ rfl rfl hl.1 rfl (lv_room (Nat.le_of_ble_eq_true rfl)) d_D_middle_292 ⟨Nat.le_of_ble_eq_true rfl, Nat.le_of_ble_eq_true rfl⟩) hP hD hS hA [0, 1, 2, 3, 4, 5, 6, 7, 8] [] [0, 1, 2, 3, 4, 5, 6, 7, 8] rfl rfl (by decide) (by decide) (by decide) (fun _ => rfl) (fun u_27 H locs hw hP hD hS => ?_)
      have eu_27 := hw
      refine lv_goto (tgt := 492) hx hb d_D_middle_295 (by decide) ?_
      exact zl_v (u := u_27) hx hb hr hlocks hS hP hD (by simp only [m_middle, ← er_1, ← eu_27]; try simp only [if_pos c_2, if_neg c_4, if_neg c_14, if_neg c_16, if_neg c_18, if_neg c_20, if_neg c_22, if_neg c_24, if_pos c_26]) d_D_middle_492
    by_cases c_28 : p1 = (48 : Int32)
    · refine lv_tableIn (tgt := 284) hx hb d_D_middle_31 (by rw [c_28]; decide) (by rw [c_28]; decide) (by rw [c_28]; rfl) (by decide) ?_
      refine lv_aload_n hx hb d_D_middle_284 rfl (lv_at hl 1 rfl) ?_
      refine lv_iload_n hx hb d_D_middle_285 rfl (lv_at hl 3 rfl) ?_
      refine lv_iload_n hx hb d_D_middle_286 rfl (lv_at hl 2 rfl) ?_
      refine lv_iload_n hx hb d_D_middle_287 rfl (lv_at hl 4 rfl) ?_
      refine lv_iload hx hb d_D_middle_288 (lv_at hl 0 rfl) ?_
      refine lv_iload hx hb d_D_middle_290 (lv_at hl 5 rfl) ?_
      refine zc_v (w2 := fun u9 => wD h c u9) (va_runV (As := [.int p1, .int p0, .int p2, .int r_1, .int p3]) (rest := []) ⟨hx, hb, hml, hown, ht⟩ (mt_D_special l D h c H.size st p1 p0 p2 r_1 p3 hV hr9) (cwV 5 ht (zgV zw_1062 zw_1064 zs_69 zw_7 zw_1065) rfl rfl rfl kd_D_special ⟨Nat.le_of_ble_eq_true rfl, Nat.le_of_ble_eq_true rfl⟩) ⟨zw_blind zw_tt, va_recv (hK.sub (tys' := [(c 21, .long), (c 22, .int), (c 23, .int), (c 24, .int), (c 25, .int), (c 26, .int), (c 27, .int), (c 28, .int)]) [0, 1, 2, 3, 4, 5, 6, 7] rfl) (hP.sub (ws' := wD h c st) [0, 1, 2, 3, 4, 5, 6, 7, 8] rfl) (ci := 6) (q0 := 0) rfl rfl, zw_go (hP.sub (ws' := wD h c st) [0, 1, 2, 3, 4, 5, 6, 7, 8] rfl) (hD.sub (ws' := wD h c st) [0, 1, 2, 3, 4, 5, 6, 7, 8] (by decide) rfl) (hK.sub (tys' := [(c 21, .long), (c 22, .int), (c 23, .int), (c 24, .int), (c 25, .int), (c 26, .int), (c 27, .int), (c 28, .int)]) [0, 1, 2, 3, 4, 5, 6, 7] rfl) (fun _ _ _ => trivial)⟩ rfl rfl hl.1 rfl (lv_room (Nat.le_of_ble_eq_true rfl)) d_D_middle_292 ⟨Nat.le_of_ble_eq_true rfl, Nat.le_of_ble_eq_true rfl⟩) hP hD hS hA [0, 1, 2, 3, 4, 5, 6, 7, 8] [] [0, 1, 2, 3, 4, 5, 6, 7, 8] rfl rfl (by decide) (by decide) (by decide) (fun _ => rfl) (fun u_29 H locs hw hP hD hS => ?_)
      have eu_29 := hw
      refine lv_goto (tgt := 492) hx hb d_D_middle_295 (by decide) ?_
      exact zl_v (u := u_29) hx hb hr hlocks hS hP hD (by simp only [m_middle, ← er_1, ← eu_29]; try simp only [if_pos c_2, if_neg c_4, if_neg c_14, if_neg c_16, if_neg c_18, if_neg c_20, if_neg c_22, if_neg c_24, if_neg c_26, if_pos c_28]) d_D_middle_492
    by_cases c_30 : p1 = (49 : Int32)
    · refine lv_tableIn (tgt := 284) hx hb d_D_middle_31 (by rw [c_30]; decide) (by rw [c_30]; decide) (by rw [c_30]; rfl) (by decide) ?_
      refine lv_aload_n hx hb d_D_middle_284 rfl (lv_at hl 1 rfl) ?_
      refine lv_iload_n hx hb d_D_middle_285 rfl (lv_at hl 3 rfl) ?_
      refine lv_iload_n hx hb d_D_middle_286 rfl (lv_at hl 2 rfl) ?_
      refine lv_iload_n hx hb d_D_middle_287 rfl (lv_at hl 4 rfl) ?_
      refine lv_iload hx hb d_D_middle_288 (lv_at hl 0 rfl) ?_
      refine lv_iload hx hb d_D_middle_290 (lv_at hl 5 rfl) ?_
      refine zc_v (w2 := fun u9 => wD h c u9) (va_runV (As := [.int p1, .int p0, .int p2, .int r_1, .int p3]) (rest := []) ⟨hx, hb, hml, hown, ht⟩ (mt_D_special l D h c H.size st p1 p0 p2 r_1 p3 hV hr9) (cwV 5 ht (zgV zw_1062 zw_1064 zs_69 zw_7 zw_1065) rfl rfl rfl kd_D_special ⟨Nat.le_of_ble_eq_true rfl, Nat.le_of_ble_eq_true rfl⟩) ⟨zw_blind zw_tt, va_recv (hK.sub (tys' := [(c 21, .long), (c 22, .int), (c 23, .int), (c 24, .int), (c 25, .int), (c 26, .int), (c 27, .int), (c 28, .int)]) [0, 1, 2, 3, 4, 5, 6, 7] rfl) (hP.sub (ws' := wD h c st) [0, 1, 2, 3, 4, 5, 6, 7, 8] rfl) (ci := 6) (q0 := 0) rfl rfl, zw_go (hP.sub (ws' := wD h c st) [0, 1, 2, 3, 4, 5, 6, 7, 8] rfl) (hD.sub (ws' := wD h c st) [0, 1, 2, 3, 4, 5, 6, 7, 8] (by decide) rfl) (hK.sub (tys' := [(c 21, .long), (c 22, .int), (c 23, .int), (c 24, .int), (c 25, .int), (c 26, .int), (c 27, .int), (c 28, .int)]) [0, 1, 2, 3, 4, 5, 6, 7] rfl) (fun _ _ _ => trivial)⟩ rfl rfl hl.1 rfl (lv_room (Nat.le_of_ble_eq_true rfl)) d_D_middle_292 ⟨Nat.le_of_ble_eq_true rfl, Nat.le_of_ble_eq_true rfl⟩) hP hD hS hA [0, 1, 2, 3, 4, 5, 6, 7, 8] [] [0, 1, 2, 3, 4, 5, 6, 7, 8] rfl rfl (by decide) (by decide) (by decide) (fun _ => rfl) (fun u_31 H locs hw hP hD hS => ?_)
      have eu_31 := hw
      refine lv_goto (tgt := 492) hx hb d_D_middle_295 (by decide) ?_
      exact zl_v (u := u_31) hx hb hr hlocks hS hP hD (by simp only [m_middle, ← er_1, ← eu_31]; try simp only [if_pos c_2, if_neg c_4, if_neg c_14, if_neg c_16, if_neg c_18, if_neg c_20, if_neg c_22, if_neg c_24, if_neg c_26, if_neg c_28, if_pos c_30]) d_D_middle_492
    by_cases c_32 : p1 = (50 : Int32)
    · refine lv_tableIn (tgt := 284) hx hb d_D_middle_31 (by rw [c_32]; decide) (by rw [c_32]; decide) (by rw [c_32]; rfl) (by decide) ?_
      refine lv_aload_n hx hb d_D_middle_284 rfl (lv_at hl 1 rfl) ?_
      refine lv_iload_n hx hb d_D_middle_285 rfl (lv_at hl 3 rfl) ?_
      refine lv_iload_n hx hb d_D_middle_286 rfl (lv_at hl 2 rfl) ?_
      refine lv_iload_n hx hb d_D_middle_287 rfl (lv_at hl 4 rfl) ?_
      refine lv_iload hx hb d_D_middle_288 (lv_at hl 0 rfl) ?_
      refine lv_iload hx hb d_D_middle_290 (lv_at hl 5 rfl) ?_
      refine zc_v (w2 := fun u9 => wD h c u9) (va_runV (As := [.int p1, .int p0, .int p2, .int r_1, .int p3]) (rest := []) ⟨hx, hb, hml, hown, ht⟩ (mt_D_special l D h c H.size st p1 p0 p2 r_1 p3 hV hr9) (cwV 5 ht (zgV zw_1062 zw_1064 zs_69 zw_7 zw_1065) rfl rfl rfl kd_D_special ⟨Nat.le_of_ble_eq_true rfl, Nat.le_of_ble_eq_true rfl⟩) ⟨zw_blind zw_tt, va_recv (hK.sub (tys' := [(c 21, .long), (c 22, .int), (c 23, .int), (c 24, .int), (c 25, .int), (c 26, .int), (c 27, .int), (c 28, .int)]) [0, 1, 2, 3, 4, 5, 6, 7] rfl) (hP.sub (ws' := wD h c st) [0, 1, 2, 3, 4, 5, 6, 7, 8] rfl) (ci := 6) (q0 := 0) rfl rfl, zw_go (hP.sub (ws' := wD h c st) [0, 1, 2, 3, 4, 5, 6, 7, 8] rfl) (hD.sub (ws' := wD h c st) [0, 1, 2, 3, 4, 5, 6, 7, 8] (by decide) rfl) (hK.sub (tys' := [(c 21, .long), (c 22, .int), (c 23, .int), (c 24, .int), (c 25, .int), (c 26, .int), (c 27, .int), (c 28, .int)]) [0, 1, 2, 3, 4, 5, 6, 7] rfl) (fun _ _ _ => trivial)⟩ rfl rfl hl.1 rfl (lv_room (Nat.le_of_ble_eq_true rfl)) d_D_middle_292 ⟨Nat.le_of_ble_eq_true rfl, Nat.le_of_ble_eq_true rfl⟩) hP hD hS hA [0, 1, 2, 3, 4, 5, 6, 7, 8] [] [0, 1, 2, 3, 4, 5, 6, 7, 8] rfl rfl (by decide) (by decide) (by decide) (fun _ => rfl) (fun u_33 H locs hw hP hD hS => ?_)
      have eu_33 := hw
      refine lv_goto (tgt := 492) hx hb d_D_middle_295 (by decide) ?_
      exact zl_v (u := u_33) hx hb hr hlocks hS hP hD (by simp only [m_middle, ← er_1, ← eu_33]; try simp only [if_pos c_2, if_neg c_4, if_neg c_14, if_neg c_16, if_neg c_18, if_neg c_20, if_neg c_22, if_neg c_24, if_neg c_26, if_neg c_28, if_neg c_30, if_pos c_32]) d_D_middle_492
    by_cases c_34 : p1 = (51 : Int32)
    · refine lv_tableIn (tgt := 284) hx hb d_D_middle_31 (by rw [c_34]; decide) (by rw [c_34]; decide) (by rw [c_34]; rfl) (by decide) ?_
      refine lv_aload_n hx hb d_D_middle_284 rfl (lv_at hl 1 rfl) ?_
      refine lv_iload_n hx hb d_D_middle_285 rfl (lv_at hl 3 rfl) ?_
      refine lv_iload_n hx hb d_D_middle_286 rfl (lv_at hl 2 rfl) ?_
      refine lv_iload_n hx hb d_D_middle_287 rfl (lv_at hl 4 rfl) ?_
      refine lv_iload hx hb d_D_middle_288 (lv_at hl 0 rfl) ?_
      refine lv_iload hx hb d_D_middle_290 (lv_at hl 5 rfl) ?_
      refine zc_v (w2 := fun u9 => wD h c u9) (va_runV (As := [.int p1, .int p0, .int p2, .int r_1, .int p3]) (rest := []) ⟨hx, hb, hml, hown, ht⟩ (mt_D_special l D h c H.size st p1 p0 p2 r_1 p3 hV hr9) (cwV 5 ht (zgV zw_1062 zw_1064 zs_69 zw_7 zw_1065) rfl rfl rfl kd_D_special ⟨Nat.le_of_ble_eq_true rfl, Nat.le_of_ble_eq_true rfl⟩) ⟨zw_blind zw_tt, va_recv (hK.sub (tys' := [(c 21, .long), (c 22, .int), (c 23, .int), (c 24, .int), (c 25, .int), (c 26, .int), (c 27, .int), (c 28, .int)]) [0, 1, 2, 3, 4, 5, 6, 7] rfl) (hP.sub (ws' := wD h c st) [0, 1, 2, 3, 4, 5, 6, 7, 8] rfl) (ci := 6) (q0 := 0) rfl rfl, zw_go (hP.sub (ws' := wD h c st) [0, 1, 2, 3, 4, 5, 6, 7, 8] rfl) (hD.sub (ws' := wD h c st) [0, 1, 2, 3, 4, 5, 6, 7, 8] (by decide) rfl) (hK.sub (tys' := [(c 21, .long), (c 22, .int), (c 23, .int), (c 24, .int), (c 25, .int), (c 26, .int), (c 27, .int), (c 28, .int)]) [0, 1, 2, 3, 4, 5, 6, 7] rfl) (fun _ _ _ => trivial)⟩ rfl rfl hl.1 rfl (lv_room (Nat.le_of_ble_eq_true rfl)) d_D_middle_292 ⟨Nat.le_of_ble_eq_true rfl, Nat.le_of_ble_eq_true rfl⟩) hP hD hS hA [0, 1, 2, 3, 4, 5, 6, 7, 8] [] [0, 1, 2, 3, 4, 5, 6, 7, 8] rfl rfl (by decide) (by decide) (by decide) (fun _ => rfl) (fun u_35 H locs hw hP hD hS => ?_)
      have eu_35 := hw
      refine lv_goto (tgt := 492) hx hb d_D_middle_295 (by decide) ?_
      exact zl_v (u := u_35) hx hb hr hlocks hS hP hD (by simp only [m_middle, ← er_1, ← eu_35]; try simp only [if_pos c_2, if_neg c_4, if_neg c_14, if_neg c_16, if_neg c_18, if_neg c_20, if_neg c_22, if_neg c_24, if_neg c_26, if_neg c_28, if_neg c_30, if_neg c_32, if_pos c_34]) d_D_middle_492
    by_cases c_36 : p1 = (56 : Int32)
    · refine lv_tableIn (tgt := 298) hx hb d_D_middle_31 (by rw [c_36]; decide) (by rw [c_36]; decide) (by rw [c_36]; rfl) (by decide) ?_
      refine lv_aload_n hx hb d_D_middle_298 rfl (lv_at hl 1 rfl) ?_
      refine lv_iload hx hb d_D_middle_299 (lv_at hl 0 rfl) ?_
      refine lv_iload hx hb d_D_middle_301 (lv_at hl 5 rfl) ?_
      refine lv_iadd hx hb d_D_middle_303 ?_
      refine lv_iconst (v := (3 : Int32)) hx hb d_D_middle_304 (by decide) ?_
      refine lv_iand hx hb d_D_middle_305 ?_
      refine zcut (X := Int32) (G := fun v9 H locs ls => v9 = (if ((r_1 + p3) &&& (3 : Int32)) = (0 : Int32) then (0 : Int32) else (1 : Int32)) ∧ va_P D vwCl (wD h c st) H ∧ va_D A (wD h c st) ∧ va_S A s.heap H locs ∧ lv_has ls 9 [(0, .ref (h 20)), (1, .int p0), (2, .int p1), (3, .int p2), (4, .int p3), (5, .int r_1)]) (fr := fun v9 ls => F0 m 314 ls [.int v9, .ref (h 20)]) (fun J_38 => ?_) (fun v9 H locs ls hG => ?_)
      · refine lv_if_eq (tgt := 313) hx hb d_D_middle_306 (by decide) (fun c_39 => ?_) (fun c_39 => ?_)
        · refine lv_iconst (v := (0 : Int32)) hx hb d_D_middle_313 (by decide) ?_
          exact J_38 (0 : Int32) _ _ _ ⟨by simp only [if_pos c_39], hP, hD, hS, (lv_sub hl [1, 2, 3, 4, 5, 0] rfl)⟩
        refine lv_iconst (v := (1 : Int32)) hx hb d_D_middle_309 (by decide) ?_
        refine lv_goto (tgt := 314) hx hb d_D_middle_310 (by decide) ?_
        exact J_38 (1 : Int32) _ _ _ ⟨by simp only [if_neg c_39], hP, hD, hS, (lv_sub hl [1, 2, 3, 4, 5, 0] rfl)⟩
      obtain ⟨x_37, rfl⟩ : ∃ z, z = v9 := ⟨_, rfl⟩
      obtain ⟨ex_37, hP, hD, hS, hl⟩ := hG
      have zbx_37 : zB x_37 := by rw [ex_37]; repeat' first | with_reducible exact zB0 | with_reducible exact zB1 | with_reducible assumption | with_reducible refine zB_ite ?_ ?_
      refine lv_bipush (v := (7 : Int32)) hx hb d_D_middle_314 (by decide) ?_
      refine zc_v (w2 := fun u9 => wD h c u9) (va_runV (As := [.int x_37, .int (7 : Int32)]) (rest := []) ⟨hx, hb, hml, hown, ht⟩ (mt_D_traps l D h c H.size st x_37 (7 : Int32)) (cwV 2 ht (zgV zw_1007 zw_1009 zs_59 zw_7 zw_1010) rfl rfl rfl kd_D_traps ⟨Nat.le_of_ble_eq_true rfl, Nat.le_of_ble_eq_true rfl⟩) ⟨zw_blind zw_tt, va_recv (hK.sub (tys' := [(c 21, .long), (c 22, .int), (c 23, .int), (c 24, .int), (c 25, .int), (c 26, .int), (c 27, .int), (c 28, .int)]) [0, 1, 2, 3, 4, 5, 6, 7] rfl) (hP.sub (ws' := wD h c st) [0, 1, 2, 3, 4, 5, 6, 7, 8] rfl) (ci := 6) (q0 := 0) rfl rfl, zw_go (hP.sub (ws' := wD h c st) [0, 1, 2, 3, 4, 5, 6, 7, 8] rfl) (hD.sub (ws' := wD h c st) [0, 1, 2, 3, 4, 5, 6, 7, 8] (by decide) rfl) (hK.sub (tys' := [(c 21, .long), (c 22, .int), (c 23, .int), (c 24, .int), (c 25, .int), (c 26, .int), (c 27, .int), (c 28, .int)]) [0, 1, 2, 3, 4, 5, 6, 7] rfl) (fun _ _ _ => trivial)⟩ rfl rfl hl.1 rfl (lv_room (Nat.le_of_ble_eq_true rfl)) d_D_middle_316 ⟨Nat.le_of_ble_eq_true rfl, Nat.le_of_ble_eq_true rfl⟩) hP hD hS hA [0, 1, 2, 3, 4, 5, 6, 7, 8] [] [0, 1, 2, 3, 4, 5, 6, 7, 8] rfl rfl (by decide) (by decide) (by decide) (fun _ => rfl) (fun u_40 H locs hw hP hD hS => ?_)
      have eu_40 := hw
      have ok_40 : okV u_40 := by rw [eu_40]; exact (ov_traps hV)
      refine lv_aload_n hx hb d_D_middle_319 rfl (lv_at hl 0 rfl) ?_
      refine va_get (D := D) (ci := 6) (v := .int (u_40.1 21)) (C := "WindowMachineModel") (T := T_D) (N := 31) hx hb ht zi_D hown hK hP 0 rfl rfl 29 (by decide) (ht _ zw_883) (fun _ h9 => h9) rfl d_D_middle_320 ?_
      refine lv_if_lt (tgt := 329) hx hb d_D_middle_323 (by decide) (fun c_41 => ?_) (fun c_41 => ?_)
      · refine lv_aload_n hx hb d_D_middle_329 rfl (lv_at hl 0 rfl) ?_
        refine lv_iload hx hb d_D_middle_330 (lv_at hl 5 rfl) ?_
        refine lv_iload hx hb d_D_middle_332 (lv_at hl 4 rfl) ?_
        refine lv_iadd hx hb d_D_middle_334 ?_
        refine va_put (D := D) (ci := 6) (v := .int (r_1 + p3)) (ty := .int) (C := "WindowMachineModel") (T := T_D) (N := 31) hx hb ht zi_D ty_D tyok_D nm_D hown hK hP hD hS 0 rfl rfl 30 (by decide) (ht _ zw_884) (fun _ h9 => h9) rfl (by decide +kernel) rfl rfl (Nat.le_of_ble_eq_true rfl) d_D_middle_335 (fun H locs hP hD hS => ?_)
        have hP : va_P D vwCl (wD h c (upd u_40.1 22 (r_1 + p3), u_40.2.1, u_40.2.2.1, u_40.2.2.2.1, u_40.2.2.2.2.1, u_40.2.2.2.2.2)) H := hP
        have hD : va_D A (wD h c (upd u_40.1 22 (r_1 + p3), u_40.2.1, u_40.2.2.1, u_40.2.2.2.1, u_40.2.2.2.2.1, u_40.2.2.2.2.2)) := hD
        refine lv_aload_n hx hb d_D_middle_338 rfl (lv_at hl 0 rfl) ?_
        refine lv_iload_n hx hb d_D_middle_339 rfl (lv_at hl 1 rfl) ?_
        refine lv_aload_n hx hb d_D_middle_340 rfl (lv_at hl 0 rfl) ?_
        refine va_get (D := D) (ci := 6) (v := .int (u_40.1 6)) (C := "WindowMachineModel") (T := T_D) (N := 31) hx hb ht zi_D hown hK hP 0 rfl rfl 14 (by decide) (ht _ zw_868) (fun _ h9 => h9) rfl d_D_middle_341 ?_
        refine lv_aload_n hx hb d_D_middle_344 rfl (lv_at hl 0 rfl) ?_
        refine va_get (D := D) (ci := 6) (v := .int (u_40.1 4)) (C := "WindowMachineModel") (T := T_D) (N := 31) hx hb ht zi_D hown hK hP 0 rfl rfl 12 (by decide) (ht _ zw_866) (fun _ h9 => h9) rfl d_D_middle_345 ?_
        refine zc_v (w2 := fun u9 => wD h c u9) (va_runV (As := [.int p0, .int (u_40.1 6), .int (u_40.1 4)]) (rest := []) ⟨hx, hb, hml, hown, ht⟩ (mt_D_gives l D h c H.size (upd u_40.1 22 (r_1 + p3), u_40.2.1, u_40.2.2.1, u_40.2.2.2.1, u_40.2.2.2.2.1, u_40.2.2.2.2.2) p0 (u_40.1 6) (u_40.1 4) hr9 (ok_40).1) (cwV 3 ht (zgV zw_990 zw_992 zs_57 zw_7 zw_993) rfl rfl rfl kd_D_gives ⟨Nat.le_of_ble_eq_true rfl, Nat.le_of_ble_eq_true rfl⟩) ⟨zw_blind zw_tt, va_recv (hK.sub (tys' := [(c 21, .long), (c 22, .int), (c 23, .int), (c 24, .int), (c 25, .int), (c 26, .int), (c 27, .int), (c 28, .int)]) [0, 1, 2, 3, 4, 5, 6, 7] rfl) (hP.sub (ws' := wD h c (upd u_40.1 22 (r_1 + p3), u_40.2.1, u_40.2.2.1, u_40.2.2.2.1, u_40.2.2.2.2.1, u_40.2.2.2.2.2)) [0, 1, 2, 3, 4, 5, 6, 7, 8] rfl) (ci := 6) (q0 := 0) rfl rfl, zw_go (hP.sub (ws' := wD h c (upd u_40.1 22 (r_1 + p3), u_40.2.1, u_40.2.2.1, u_40.2.2.2.1, u_40.2.2.2.2.1, u_40.2.2.2.2.2)) [0, 1, 2, 3, 4, 5, 6, 7, 8] rfl) (hD.sub (ws' := wD h c (upd u_40.1 22 (r_1 + p3), u_40.2.1, u_40.2.2.1, u_40.2.2.2.1, u_40.2.2.2.2.1, u_40.2.2.2.2.2)) [0, 1, 2, 3, 4, 5, 6, 7, 8] (by decide) rfl) (hK.sub (tys' := [(c 21, .long), (c 22, .int), (c 23, .int), (c 24, .int), (c 25, .int), (c 26, .int), (c 27, .int), (c 28, .int)]) [0, 1, 2, 3, 4, 5, 6, 7] rfl) (fun _ _ _ => trivial)⟩ rfl rfl hl.1 rfl (lv_room (Nat.le_of_ble_eq_true rfl)) d_D_middle_348 ⟨Nat.le_of_ble_eq_true rfl, Nat.le_of_ble_eq_true rfl⟩) hP hD hS hA [0, 1, 2, 3, 4, 5, 6, 7, 8] [] [0, 1, 2, 3, 4, 5, 6, 7, 8] rfl rfl (by decide) (by decide) (by decide) (fun _ => rfl) (fun u_42 H locs hw hP hD hS => ?_)
        have eu_42 := hw
        have ok_42 : okV u_42 := by rw [eu_42]; exact (ov_gives ok_40)
        refine lv_goto (tgt := 492) hx hb d_D_middle_351 (by decide) ?_
        exact zl_v (u := u_42) hx hb hr hlocks hS hP hD (by simp only [m_middle, ← er_1, ← ex_37, ← eu_40, ← eu_42]; try simp only [if_pos c_2, if_neg c_4, if_neg c_14, if_neg c_16, if_neg c_18, if_neg c_20, if_neg c_22, if_neg c_24, if_neg c_26, if_neg c_28, if_neg c_30, if_neg c_32, if_neg c_34, if_pos c_36, if_pos c_41]) d_D_middle_492
      refine lv_goto (tgt := 492) hx hb d_D_middle_326 (by decide) ?_
      exact zl_v (u := u_40) hx hb hr hlocks hS hP hD (by simp only [m_middle, ← er_1, ← ex_37, ← eu_40]; try simp only [if_pos c_2, if_neg c_4, if_neg c_14, if_neg c_16, if_neg c_18, if_neg c_20, if_neg c_22, if_neg c_24, if_neg c_26, if_neg c_28, if_neg c_30, if_neg c_32, if_neg c_34, if_pos c_36, if_neg c_41]) d_D_middle_492
    by_cases c_43 : p1 = (57 : Int32)
    · refine lv_tableIn (tgt := 354) hx hb d_D_middle_31 (by rw [c_43]; decide) (by rw [c_43]; decide) (by rw [c_43]; rfl) (by decide) ?_
      refine lv_aload_n hx hb d_D_middle_354 rfl (lv_at hl 1 rfl) ?_
      refine lv_iload hx hb d_D_middle_355 (lv_at hl 0 rfl) ?_
      refine lv_iload hx hb d_D_middle_357 (lv_at hl 5 rfl) ?_
      refine lv_iadd hx hb d_D_middle_359 ?_
      refine zc_v (w2 := fun u9 => wD h c u9) (va_runV (As := [.int (r_1 + p3)]) (rest := []) ⟨hx, hb, hml, hown, ht⟩ (mt_D_returns l D h c H.size st (r_1 + p3) hV) (cwV 1 ht (zgV zw_1070 zw_1072 zs_71 zw_7 zw_1073) rfl rfl rfl kd_D_returns ⟨Nat.le_of_ble_eq_true rfl, Nat.le_of_ble_eq_true rfl⟩) ⟨zw_blind zw_tt, va_recv (hK.sub (tys' := [(c 21, .long), (c 22, .int), (c 23, .int), (c 24, .int), (c 25, .int), (c 26, .int), (c 27, .int), (c 28, .int)]) [0, 1, 2, 3, 4, 5, 6, 7] rfl) (hP.sub (ws' := wD h c st) [0, 1, 2, 3, 4, 5, 6, 7, 8] rfl) (ci := 6) (q0 := 0) rfl rfl, zw_go (hP.sub (ws' := wD h c st) [0, 1, 2, 3, 4, 5, 6, 7, 8] rfl) (hD.sub (ws' := wD h c st) [0, 1, 2, 3, 4, 5, 6, 7, 8] (by decide) rfl) (hK.sub (tys' := [(c 21, .long), (c 22, .int), (c 23, .int), (c 24, .int), (c 25, .int), (c 26, .int), (c 27, .int), (c 28, .int)]) [0, 1, 2, 3, 4, 5, 6, 7] rfl) (fun _ _ _ => trivial)⟩ rfl rfl hl.1 rfl (lv_room (Nat.le_of_ble_eq_true rfl)) d_D_middle_360 ⟨Nat.le_of_ble_eq_true rfl, Nat.le_of_ble_eq_true rfl⟩) hP hD hS hA [0, 1, 2, 3, 4, 5, 6, 7, 8] [] [0, 1, 2, 3, 4, 5, 6, 7, 8] rfl rfl (by decide) (by decide) (by decide) (fun _ => rfl) (fun u_44 H locs hw hP hD hS => ?_)
      have eu_44 := hw
      have ok_44 : okV u_44 := by rw [eu_44]; exact (ov_returns hV)
      refine lv_goto (tgt := 492) hx hb d_D_middle_363 (by decide) ?_
      exact zl_v (u := u_44) hx hb hr hlocks hS hP hD (by simp only [m_middle, ← er_1, ← eu_44]; try simp only [if_pos c_2, if_neg c_4, if_neg c_14, if_neg c_16, if_neg c_18, if_neg c_20, if_neg c_22, if_neg c_24, if_neg c_26, if_neg c_28, if_neg c_30, if_neg c_32, if_neg c_34, if_neg c_36, if_pos c_43]) d_D_middle_492
    by_cases c_45 : p1 = (58 : Int32)
    · refine lv_tableIn (tgt := 366) hx hb d_D_middle_31 (by rw [c_45]; decide) (by rw [c_45]; decide) (by rw [c_45]; rfl) (by decide) ?_
      refine lv_aload_n hx hb d_D_middle_366 rfl (lv_at hl 1 rfl) ?_
      refine lv_aload_n hx hb d_D_middle_367 rfl (lv_at hl 1 rfl) ?_
      refine lv_iload_n hx hb d_D_middle_368 rfl (lv_at hl 2 rfl) ?_
      refine lv_bipush (v := (15 : Int32)) hx hb d_D_middle_369 (by decide) ?_
      refine lv_iand hx hb d_D_middle_371 ?_
      refine zc_i (w2 := fun _ => wD h c st) (va_runV (As := [.int (p0 &&& (15 : Int32))]) (rest := [.ref (h 20)]) ⟨hx, hb, hml, hown, ht⟩ (mt_D_holds l D h c H.size st (p0 &&& (15 : Int32))) (cwV 1 ht (zgV zw_1019 zw_1021 zs_62 zw_7 zw_1022) rfl rfl rfl kd_D_holds ⟨Nat.le_of_ble_eq_true rfl, Nat.le_of_ble_eq_true rfl⟩) ⟨zw_blind zw_tt, va_recv (hK.sub (tys' := [(c 21, .long), (c 22, .int), (c 23, .int), (c 24, .int), (c 25, .int), (c 26, .int), (c 27, .int), (c 28, .int)]) [0, 1, 2, 3, 4, 5, 6, 7] rfl) (hP.sub (ws' := wD h c st) [0, 1, 2, 3, 4, 5, 6, 7, 8] rfl) (ci := 6) (q0 := 0) rfl rfl, zw_go (hP.sub (ws' := wD h c st) [0, 1, 2, 3, 4, 5, 6, 7, 8] rfl) (hD.sub (ws' := wD h c st) [0, 1, 2, 3, 4, 5, 6, 7, 8] (by decide) rfl) (hK.sub (tys' := [(c 21, .long), (c 22, .int), (c 23, .int), (c 24, .int), (c 25, .int), (c 26, .int), (c 27, .int), (c 28, .int)]) [0, 1, 2, 3, 4, 5, 6, 7] rfl) (fun _ _ _ => trivial)⟩ rfl rfl hl.1 rfl (lv_room (Nat.le_of_ble_eq_true rfl)) d_D_middle_372 ⟨Nat.le_of_ble_eq_true rfl, Nat.le_of_ble_eq_true rfl⟩) hP hD hS hA [0, 1, 2, 3, 4, 5, 6, 7, 8] [] [0, 1, 2, 3, 4, 5, 6, 7, 8] rfl rfl (by decide) (by decide) (by decide) (fun _ => rfl) (fun r_46 _ H locs hw hP hD hS => ?_)
      have er_46 := hw
      refine lv_sipush (v := (128 : Int32)) hx hb d_D_middle_375 (by decide) ?_
      refine lv_iload hx hb d_D_middle_378 (lv_at hl 0 rfl) ?_
      refine lv_iload hx hb d_D_middle_380 (lv_at hl 5 rfl) ?_
      refine lv_iadd hx hb d_D_middle_382 ?_
      refine lv_bipush (v := (127 : Int32)) hx hb d_D_middle_383 (by decide) ?_
      refine lv_iand hx hb d_D_middle_385 ?_
      refine lv_iadd hx hb d_D_middle_386 ?_
      refine zc_v (w2 := fun u9 => wD h c u9) (va_runV (As := [.int r_46, .int ((128 : Int32) + ((r_1 + p3) &&& (127 : Int32)))]) (rest := []) ⟨hx, hb, hml, hown, ht⟩ (mt_D_traps l D h c H.size st r_46 ((128 : Int32) + ((r_1 + p3) &&& (127 : Int32)))) (cwV 2 ht (zgV zw_1007 zw_1009 zs_59 zw_7 zw_1010) rfl rfl rfl kd_D_traps ⟨Nat.le_of_ble_eq_true rfl, Nat.le_of_ble_eq_true rfl⟩) ⟨zw_blind zw_tt, va_recv (hK.sub (tys' := [(c 21, .long), (c 22, .int), (c 23, .int), (c 24, .int), (c 25, .int), (c 26, .int), (c 27, .int), (c 28, .int)]) [0, 1, 2, 3, 4, 5, 6, 7] rfl) (hP.sub (ws' := wD h c st) [0, 1, 2, 3, 4, 5, 6, 7, 8] rfl) (ci := 6) (q0 := 0) rfl rfl, zw_go (hP.sub (ws' := wD h c st) [0, 1, 2, 3, 4, 5, 6, 7, 8] rfl) (hD.sub (ws' := wD h c st) [0, 1, 2, 3, 4, 5, 6, 7, 8] (by decide) rfl) (hK.sub (tys' := [(c 21, .long), (c 22, .int), (c 23, .int), (c 24, .int), (c 25, .int), (c 26, .int), (c 27, .int), (c 28, .int)]) [0, 1, 2, 3, 4, 5, 6, 7] rfl) (fun _ _ _ => trivial)⟩ rfl rfl hl.1 rfl (lv_room (Nat.le_of_ble_eq_true rfl)) d_D_middle_387 ⟨Nat.le_of_ble_eq_true rfl, Nat.le_of_ble_eq_true rfl⟩) hP hD hS hA [0, 1, 2, 3, 4, 5, 6, 7, 8] [] [0, 1, 2, 3, 4, 5, 6, 7, 8] rfl rfl (by decide) (by decide) (by decide) (fun _ => rfl) (fun u_47 H locs hw hP hD hS => ?_)
      have eu_47 := hw
      have ok_47 : okV u_47 := by rw [eu_47]; exact (ov_traps hV)
      refine lv_goto (tgt := 492) hx hb d_D_middle_390 (by decide) ?_
      exact zl_v (u := u_47) hx hb hr hlocks hS hP hD (by simp only [m_middle, ← er_1, ← er_46, ← eu_47]; try simp only [if_pos c_2, if_neg c_4, if_neg c_14, if_neg c_16, if_neg c_18, if_neg c_20, if_neg c_22, if_neg c_24, if_neg c_26, if_neg c_28, if_neg c_30, if_neg c_32, if_neg c_34, if_neg c_36, if_neg c_43, if_pos c_45]) d_D_middle_492
    by_cases c_48 : p1 = (60 : Int32)
    · refine lv_tableIn (tgt := 393) hx hb d_D_middle_31 (by rw [c_48]; decide) (by rw [c_48]; decide) (by rw [c_48]; rfl) (by decide) ?_
      refine lv_iload_n hx hb d_D_middle_393 rfl (lv_at hl 3 rfl) ?_
      refine lv_bipush (v := (60 : Int32)) hx hb d_D_middle_394 (by decide) ?_
      refine zcut (X := Int32) (G := fun v9 H locs ls => v9 = (if p1 = (60 : Int32) then ((st.1 6) + (3 : Int32)) &&& (3 : Int32) else ((st.1 6) + (1 : Int32)) &&& (3 : Int32)) ∧ va_P D vwCl (wD h c st) H ∧ va_D A (wD h c st) ∧ va_S A s.heap H locs ∧ lv_has ls 9 [(0, .ref (h 20)), (1, .int p0), (2, .int p1), (3, .int p2), (4, .int p3), (5, .int r_1)]) (fr := fun v9 ls => F0 m 418 ls [.int v9]) (fun J_50 => ?_) (fun v9 H locs ls hG => ?_)
      · refine lv_icmp_ne (tgt := 410) hx hb d_D_middle_396 (by decide) (fun c_51 => ?_) (fun c_51 => ?_)
        · refine lv_aload_n hx hb d_D_middle_410 rfl (lv_at hl 1 rfl) ?_
          refine va_get (D := D) (ci := 6) (v := .int (st.1 6)) (C := "WindowMachineModel") (T := T_D) (N := 31) hx hb ht zi_D hown hK hP 0 rfl rfl 14 (by decide) (ht _ zw_868) (fun _ h9 => h9) rfl d_D_middle_411 ?_
          refine lv_iconst (v := (1 : Int32)) hx hb d_D_middle_414 (by decide) ?_
          refine lv_iadd hx hb d_D_middle_415 ?_
          refine lv_iconst (v := (3 : Int32)) hx hb d_D_middle_416 (by decide) ?_
          refine lv_iand hx hb d_D_middle_417 ?_
          exact J_50 (((st.1 6) + (1 : Int32)) &&& (3 : Int32)) _ _ _ ⟨by simp only [if_neg c_51], hP, hD, hS, (lv_sub hl [1, 2, 3, 4, 5, 0] rfl)⟩
        refine lv_aload_n hx hb d_D_middle_399 rfl (lv_at hl 1 rfl) ?_
        refine va_get (D := D) (ci := 6) (v := .int (st.1 6)) (C := "WindowMachineModel") (T := T_D) (N := 31) hx hb ht zi_D hown hK hP 0 rfl rfl 14 (by decide) (ht _ zw_868) (fun _ h9 => h9) rfl d_D_middle_400 ?_
        refine lv_iconst (v := (3 : Int32)) hx hb d_D_middle_403 (by decide) ?_
        refine lv_iadd hx hb d_D_middle_404 ?_
        refine lv_iconst (v := (3 : Int32)) hx hb d_D_middle_405 (by decide) ?_
        refine lv_iand hx hb d_D_middle_406 ?_
        refine lv_goto (tgt := 418) hx hb d_D_middle_407 (by decide) ?_
        exact J_50 (((st.1 6) + (3 : Int32)) &&& (3 : Int32)) _ _ _ ⟨by simp only [if_pos c_51], hP, hD, hS, (lv_sub hl [1, 2, 3, 4, 5, 0] rfl)⟩
      obtain ⟨x_49, rfl⟩ : ∃ z, z = v9 := ⟨_, rfl⟩
      obtain ⟨ex_49, hP, hD, hS, hl⟩ := hG
      refine lv_istore (lv' := [(8, .int x_49), (0, .ref (h 20)), (1, .int p0), (2, .int p1), (3, .int p2), (4, .int p3), (5, .int r_1)]) hx hb d_D_middle_418 hl (by decide) rfl (fun ls hl => ?_)
      refine lv_aload_n hx hb d_D_middle_420 rfl (lv_at hl 1 rfl) ?_
      refine lv_aload_n hx hb d_D_middle_421 rfl (lv_at hl 1 rfl) ?_
      refine va_get (D := D) (ci := 6) (v := .int (st.1 8)) (C := "WindowMachineModel") (T := T_D) (N := 31) hx hb ht zi_D hown hK hP 0 rfl rfl 16 (by decide) (ht _ zw_870) (fun _ h9 => h9) rfl d_D_middle_422 ?_
      refine lv_iload hx hb d_D_middle_425 (lv_at hl 0 rfl) ?_
      refine lv_ishr hx hb d_D_middle_427 ?_
      refine lv_iconst (v := (1 : Int32)) hx hb d_D_middle_428 (by decide) ?_
      refine lv_iand hx hb d_D_middle_429 ?_
      refine lv_iconst (v := (1 : Int32)) hx hb d_D_middle_430 (by decide) ?_
      refine zcut (X := Int32) (G := fun v9 H locs ls => v9 = (if (((st.1 8) >>> (x_49 &&& 31)) &&& (1 : Int32)) = (1 : Int32) then (1 : Int32) else (0 : Int32)) ∧ va_P D vwCl (wD h c st) H ∧ va_D A (wD h c st) ∧ va_S A s.heap H locs ∧ lv_has ls 9 [(0, .ref (h 20)), (1, .int p0), (2, .int p1), (3, .int p2), (4, .int p3), (5, .int r_1), (8, .int x_49)]) (fr := fun v9 ls => F0 m 439 ls [.int v9, .ref (h 20)]) (fun J_53 => ?_) (fun v9 H locs ls hG => ?_)
      · refine lv_icmp_ne (tgt := 438) hx hb d_D_middle_431 (by decide) (fun c_54 => ?_) (fun c_54 => ?_)
        · refine lv_iconst (v := (0 : Int32)) hx hb d_D_middle_438 (by decide) ?_
          exact J_53 (0 : Int32) _ _ _ ⟨by simp only [if_neg c_54], hP, hD, hS, (lv_sub hl [1, 2, 3, 4, 5, 6, 0] rfl)⟩
        refine lv_iconst (v := (1 : Int32)) hx hb d_D_middle_434 (by decide) ?_
        refine lv_goto (tgt := 439) hx hb d_D_middle_435 (by decide) ?_
        exact J_53 (1 : Int32) _ _ _ ⟨by simp only [if_pos c_54], hP, hD, hS, (lv_sub hl [1, 2, 3, 4, 5, 6, 0] rfl)⟩
      obtain ⟨x_52, rfl⟩ : ∃ z, z = v9 := ⟨_, rfl⟩
      obtain ⟨ex_52, hP, hD, hS, hl⟩ := hG
      have zbx_52 : zB x_52 := by rw [ex_52]; repeat' first | with_reducible exact zB0 | with_reducible exact zB1 | with_reducible assumption | with_reducible refine zB_ite ?_ ?_
      refine lv_iload_n hx hb d_D_middle_439 rfl (lv_at hl 2 rfl) ?_
      refine lv_bipush (v := (60 : Int32)) hx hb d_D_middle_440 (by decide) ?_
      refine zcut (X := Int32) (G := fun v9 H locs ls => v9 = (if p1 = (60 : Int32) then (5 : Int32) else (6 : Int32)) ∧ va_P D vwCl (wD h c st) H ∧ va_D A (wD h c st) ∧ va_S A s.heap H locs ∧ lv_has ls 9 [(0, .ref (h 20)), (1, .int p0), (2, .int p1), (3, .int p2), (4, .int p3), (5, .int r_1), (8, .int x_49)]) (fr := fun v9 ls => F0 m 451 ls [.int v9, .int x_52, .ref (h 20)]) (fun J_56 => ?_) (fun v9 H locs ls hG => ?_)
      · refine lv_icmp_ne (tgt := 449) hx hb d_D_middle_442 (by decide) (fun c_57 => ?_) (fun c_57 => ?_)
        · refine lv_bipush (v := (6 : Int32)) hx hb d_D_middle_449 (by decide) ?_
          exact J_56 (6 : Int32) _ _ _ ⟨by simp only [if_neg c_57], hP, hD, hS, hl⟩
        refine lv_iconst (v := (5 : Int32)) hx hb d_D_middle_445 (by decide) ?_
        refine lv_goto (tgt := 451) hx hb d_D_middle_446 (by decide) ?_
        exact J_56 (5 : Int32) _ _ _ ⟨by simp only [if_pos c_57], hP, hD, hS, hl⟩
      obtain ⟨x_55, rfl⟩ : ∃ z, z = v9 := ⟨_, rfl⟩
      obtain ⟨ex_55, hP, hD, hS, hl⟩ := hG
      refine zc_v (w2 := fun u9 => wD h c u9) (va_runV (As := [.int x_52, .int x_55]) (rest := []) ⟨hx, hb, hml, hown, ht⟩ (mt_D_traps l D h c H.size st x_52 x_55) (cwV 2 ht (zgV zw_1007 zw_1009 zs_59 zw_7 zw_1010) rfl rfl rfl kd_D_traps ⟨Nat.le_of_ble_eq_true rfl, Nat.le_of_ble_eq_true rfl⟩) ⟨zw_blind zw_tt, va_recv (hK.sub (tys' := [(c 21, .long), (c 22, .int), (c 23, .int), (c 24, .int), (c 25, .int), (c 26, .int), (c 27, .int), (c 28, .int)]) [0, 1, 2, 3, 4, 5, 6, 7] rfl) (hP.sub (ws' := wD h c st) [0, 1, 2, 3, 4, 5, 6, 7, 8] rfl) (ci := 6) (q0 := 0) rfl rfl, zw_go (hP.sub (ws' := wD h c st) [0, 1, 2, 3, 4, 5, 6, 7, 8] rfl) (hD.sub (ws' := wD h c st) [0, 1, 2, 3, 4, 5, 6, 7, 8] (by decide) rfl) (hK.sub (tys' := [(c 21, .long), (c 22, .int), (c 23, .int), (c 24, .int), (c 25, .int), (c 26, .int), (c 27, .int), (c 28, .int)]) [0, 1, 2, 3, 4, 5, 6, 7] rfl) (fun _ _ _ => trivial)⟩ rfl rfl hl.1 rfl (lv_room (Nat.le_of_ble_eq_true rfl)) d_D_middle_451 ⟨Nat.le_of_ble_eq_true rfl, Nat.le_of_ble_eq_true rfl⟩) hP hD hS hA [0, 1, 2, 3, 4, 5, 6, 7, 8] [] [0, 1, 2, 3, 4, 5, 6, 7, 8] rfl rfl (by decide) (by decide) (by decide) (fun _ => rfl) (fun u_58 H locs hw hP hD hS => ?_)
      have eu_58 := hw
      have ok_58 : okV u_58 := by rw [eu_58]; exact (ov_traps hV)
      refine lv_aload_n hx hb d_D_middle_454 rfl (lv_at hl 0 rfl) ?_
      refine va_get (D := D) (ci := 6) (v := .int (u_58.1 21)) (C := "WindowMachineModel") (T := T_D) (N := 31) hx hb ht zi_D hown hK hP 0 rfl rfl 29 (by decide) (ht _ zw_883) (fun _ h9 => h9) rfl d_D_middle_455 ?_
      refine lv_if_lt (tgt := 464) hx hb d_D_middle_458 (by decide) (fun c_59 => ?_) (fun c_59 => ?_)
      · refine lv_aload_n hx hb d_D_middle_464 rfl (lv_at hl 0 rfl) ?_
        refine lv_iload hx hb d_D_middle_465 (lv_at hl 6 rfl) ?_
        refine va_put (D := D) (ci := 6) (v := .int x_49) (ty := .int) (C := "WindowMachineModel") (T := T_D) (N := 31) hx hb ht zi_D ty_D tyok_D nm_D hown hK hP hD hS 0 rfl rfl 14 (by decide) (ht _ zw_868) (fun _ h9 => h9) rfl (by decide +kernel) rfl rfl (Nat.le_of_ble_eq_true rfl) d_D_middle_467 (fun H locs hP hD hS => ?_)
        have hP : va_P D vwCl (wD h c (upd u_58.1 6 x_49, u_58.2.1, u_58.2.2.1, u_58.2.2.2.1, u_58.2.2.2.2.1, u_58.2.2.2.2.2)) H := hP
        have hD : va_D A (wD h c (upd u_58.1 6 x_49, u_58.2.1, u_58.2.2.1, u_58.2.2.2.1, u_58.2.2.2.2.1, u_58.2.2.2.2.2)) := hD
        refine lv_aload_n hx hb d_D_middle_470 rfl (lv_at hl 0 rfl) ?_
        refine lv_iload_n hx hb d_D_middle_471 rfl (lv_at hl 1 rfl) ?_
        refine lv_aload_n hx hb d_D_middle_472 rfl (lv_at hl 0 rfl) ?_
        refine va_get (D := D) (ci := 6) (v := .int x_49) (C := "WindowMachineModel") (T := T_D) (N := 31) hx hb ht zi_D hown hK hP 0 rfl rfl 14 (by decide) (ht _ zw_868) (fun _ h9 => h9) rfl d_D_middle_473 ?_
        refine lv_iload hx hb d_D_middle_476 (lv_at hl 5 rfl) ?_
        refine lv_iload hx hb d_D_middle_478 (lv_at hl 4 rfl) ?_
        refine lv_iadd hx hb d_D_middle_480 ?_
        refine zc_v (w2 := fun u9 => wD h c u9) (va_runV (As := [.int p0, .int x_49, .int (r_1 + p3)]) (rest := []) ⟨hx, hb, hml, hown, ht⟩ (mt_D_gives l D h c H.size (upd u_58.1 6 x_49, u_58.2.1, u_58.2.2.1, u_58.2.2.2.1, u_58.2.2.2.2.1, u_58.2.2.2.2.2) p0 x_49 (r_1 + p3) hr9 (by rw [ex_49]; (repeat' split) <;> exact b3_in _)) (cwV 3 ht (zgV zw_990 zw_992 zs_57 zw_7 zw_993) rfl rfl rfl kd_D_gives ⟨Nat.le_of_ble_eq_true rfl, Nat.le_of_ble_eq_true rfl⟩) ⟨zw_blind zw_tt, va_recv (hK.sub (tys' := [(c 21, .long), (c 22, .int), (c 23, .int), (c 24, .int), (c 25, .int), (c 26, .int), (c 27, .int), (c 28, .int)]) [0, 1, 2, 3, 4, 5, 6, 7] rfl) (hP.sub (ws' := wD h c (upd u_58.1 6 x_49, u_58.2.1, u_58.2.2.1, u_58.2.2.2.1, u_58.2.2.2.2.1, u_58.2.2.2.2.2)) [0, 1, 2, 3, 4, 5, 6, 7, 8] rfl) (ci := 6) (q0 := 0) rfl rfl, zw_go (hP.sub (ws' := wD h c (upd u_58.1 6 x_49, u_58.2.1, u_58.2.2.1, u_58.2.2.2.1, u_58.2.2.2.2.1, u_58.2.2.2.2.2)) [0, 1, 2, 3, 4, 5, 6, 7, 8] rfl) (hD.sub (ws' := wD h c (upd u_58.1 6 x_49, u_58.2.1, u_58.2.2.1, u_58.2.2.2.1, u_58.2.2.2.2.1, u_58.2.2.2.2.2)) [0, 1, 2, 3, 4, 5, 6, 7, 8] (by decide) rfl) (hK.sub (tys' := [(c 21, .long), (c 22, .int), (c 23, .int), (c 24, .int), (c 25, .int), (c 26, .int), (c 27, .int), (c 28, .int)]) [0, 1, 2, 3, 4, 5, 6, 7] rfl) (fun _ _ _ => trivial)⟩ rfl rfl hl.1 rfl (lv_room (Nat.le_of_ble_eq_true rfl)) d_D_middle_481 ⟨Nat.le_of_ble_eq_true rfl, Nat.le_of_ble_eq_true rfl⟩) hP hD hS hA [0, 1, 2, 3, 4, 5, 6, 7, 8] [] [0, 1, 2, 3, 4, 5, 6, 7, 8] rfl rfl (by decide) (by decide) (by decide) (fun _ => rfl) (fun u_60 H locs hw hP hD hS => ?_)
        have eu_60 := hw
        refine lv_goto (tgt := 492) hx hb d_D_middle_484 (by decide) ?_
        exact zl_v (u := u_60) hx hb hr hlocks hS hP hD (by simp only [m_middle, ← er_1, ← ex_49, ← ex_52, ← ex_55, ← eu_58, ← eu_60]; try simp only [if_pos c_2, if_neg c_4, if_neg c_14, if_neg c_16, if_neg c_18, if_neg c_20, if_neg c_22, if_neg c_24, if_neg c_26, if_neg c_28, if_neg c_30, if_neg c_32, if_neg c_34, if_neg c_36, if_neg c_43, if_neg c_45, if_pos c_48, if_pos c_59]) d_D_middle_492
      refine lv_goto (tgt := 492) hx hb d_D_middle_461 (by decide) ?_
      exact zl_v (u := u_58) hx hb hr hlocks hS hP hD (by simp only [m_middle, ← er_1, ← ex_49, ← ex_52, ← ex_55, ← eu_58]; try simp only [if_pos c_2, if_neg c_4, if_neg c_14, if_neg c_16, if_neg c_18, if_neg c_20, if_neg c_22, if_neg c_24, if_neg c_26, if_neg c_28, if_neg c_30, if_neg c_32, if_neg c_34, if_neg c_36, if_neg c_43, if_neg c_45, if_pos c_48, if_neg c_59]) d_D_middle_492
    by_cases c_61 : p1 = (61 : Int32)
    · refine lv_tableIn (tgt := 393) hx hb d_D_middle_31 (by rw [c_61]; decide) (by rw [c_61]; decide) (by rw [c_61]; rfl) (by decide) ?_
      refine lv_iload_n hx hb d_D_middle_393 rfl (lv_at hl 3 rfl) ?_
      refine lv_bipush (v := (60 : Int32)) hx hb d_D_middle_394 (by decide) ?_
      refine zcut (X := Int32) (G := fun v9 H locs ls => v9 = (if p1 = (60 : Int32) then ((st.1 6) + (3 : Int32)) &&& (3 : Int32) else ((st.1 6) + (1 : Int32)) &&& (3 : Int32)) ∧ va_P D vwCl (wD h c st) H ∧ va_D A (wD h c st) ∧ va_S A s.heap H locs ∧ lv_has ls 9 [(0, .ref (h 20)), (1, .int p0), (2, .int p1), (3, .int p2), (4, .int p3), (5, .int r_1)]) (fr := fun v9 ls => F0 m 418 ls [.int v9]) (fun J_63 => ?_) (fun v9 H locs ls hG => ?_)
      · refine lv_icmp_ne (tgt := 410) hx hb d_D_middle_396 (by decide) (fun c_64 => ?_) (fun c_64 => ?_)
        · refine lv_aload_n hx hb d_D_middle_410 rfl (lv_at hl 1 rfl) ?_
          refine va_get (D := D) (ci := 6) (v := .int (st.1 6)) (C := "WindowMachineModel") (T := T_D) (N := 31) hx hb ht zi_D hown hK hP 0 rfl rfl 14 (by decide) (ht _ zw_868) (fun _ h9 => h9) rfl d_D_middle_411 ?_
          refine lv_iconst (v := (1 : Int32)) hx hb d_D_middle_414 (by decide) ?_
          refine lv_iadd hx hb d_D_middle_415 ?_
          refine lv_iconst (v := (3 : Int32)) hx hb d_D_middle_416 (by decide) ?_
          refine lv_iand hx hb d_D_middle_417 ?_
          exact J_63 (((st.1 6) + (1 : Int32)) &&& (3 : Int32)) _ _ _ ⟨by simp only [if_neg c_64], hP, hD, hS, (lv_sub hl [1, 2, 3, 4, 5, 0] rfl)⟩
        refine lv_aload_n hx hb d_D_middle_399 rfl (lv_at hl 1 rfl) ?_
        refine va_get (D := D) (ci := 6) (v := .int (st.1 6)) (C := "WindowMachineModel") (T := T_D) (N := 31) hx hb ht zi_D hown hK hP 0 rfl rfl 14 (by decide) (ht _ zw_868) (fun _ h9 => h9) rfl d_D_middle_400 ?_
        refine lv_iconst (v := (3 : Int32)) hx hb d_D_middle_403 (by decide) ?_
        refine lv_iadd hx hb d_D_middle_404 ?_
        refine lv_iconst (v := (3 : Int32)) hx hb d_D_middle_405 (by decide) ?_
        refine lv_iand hx hb d_D_middle_406 ?_
        refine lv_goto (tgt := 418) hx hb d_D_middle_407 (by decide) ?_
        exact J_63 (((st.1 6) + (3 : Int32)) &&& (3 : Int32)) _ _ _ ⟨by simp only [if_pos c_64], hP, hD, hS, (lv_sub hl [1, 2, 3, 4, 5, 0] rfl)⟩
      obtain ⟨x_62, rfl⟩ : ∃ z, z = v9 := ⟨_, rfl⟩
      obtain ⟨ex_62, hP, hD, hS, hl⟩ := hG
      refine lv_istore (lv' := [(8, .int x_62), (0, .ref (h 20)), (1, .int p0), (2, .int p1), (3, .int p2), (4, .int p3), (5, .int r_1)]) hx hb d_D_middle_418 hl (by decide) rfl (fun ls hl => ?_)
      refine lv_aload_n hx hb d_D_middle_420 rfl (lv_at hl 1 rfl) ?_
      refine lv_aload_n hx hb d_D_middle_421 rfl (lv_at hl 1 rfl) ?_
      refine va_get (D := D) (ci := 6) (v := .int (st.1 8)) (C := "WindowMachineModel") (T := T_D) (N := 31) hx hb ht zi_D hown hK hP 0 rfl rfl 16 (by decide) (ht _ zw_870) (fun _ h9 => h9) rfl d_D_middle_422 ?_
      refine lv_iload hx hb d_D_middle_425 (lv_at hl 0 rfl) ?_
      refine lv_ishr hx hb d_D_middle_427 ?_
      refine lv_iconst (v := (1 : Int32)) hx hb d_D_middle_428 (by decide) ?_
      refine lv_iand hx hb d_D_middle_429 ?_
      refine lv_iconst (v := (1 : Int32)) hx hb d_D_middle_430 (by decide) ?_
      refine zcut (X := Int32) (G := fun v9 H locs ls => v9 = (if (((st.1 8) >>> (x_62 &&& 31)) &&& (1 : Int32)) = (1 : Int32) then (1 : Int32) else (0 : Int32)) ∧ va_P D vwCl (wD h c st) H ∧ va_D A (wD h c st) ∧ va_S A s.heap H locs ∧ lv_has ls 9 [(0, .ref (h 20)), (1, .int p0), (2, .int p1), (3, .int p2), (4, .int p3), (5, .int r_1), (8, .int x_62)]) (fr := fun v9 ls => F0 m 439 ls [.int v9, .ref (h 20)]) (fun J_66 => ?_) (fun v9 H locs ls hG => ?_)
      · refine lv_icmp_ne (tgt := 438) hx hb d_D_middle_431 (by decide) (fun c_67 => ?_) (fun c_67 => ?_)
        · refine lv_iconst (v := (0 : Int32)) hx hb d_D_middle_438 (by decide) ?_
          exact J_66 (0 : Int32) _ _ _ ⟨by simp only [if_neg c_67], hP, hD, hS, (lv_sub hl [1, 2, 3, 4, 5, 6, 0] rfl)⟩
        refine lv_iconst (v := (1 : Int32)) hx hb d_D_middle_434 (by decide) ?_
        refine lv_goto (tgt := 439) hx hb d_D_middle_435 (by decide) ?_
        exact J_66 (1 : Int32) _ _ _ ⟨by simp only [if_pos c_67], hP, hD, hS, (lv_sub hl [1, 2, 3, 4, 5, 6, 0] rfl)⟩
      obtain ⟨x_65, rfl⟩ : ∃ z, z = v9 := ⟨_, rfl⟩
      obtain ⟨ex_65, hP, hD, hS, hl⟩ := hG
      have zbx_65 : zB x_65 := by rw [ex_65]; repeat' first | with_reducible exact zB0 | with_reducible exact zB1 | with_reducible assumption | with_reducible refine zB_ite ?_ ?_
      refine lv_iload_n hx hb d_D_middle_439 rfl (lv_at hl 2 rfl) ?_
      refine lv_bipush (v := (60 : Int32)) hx hb d_D_middle_440 (by decide) ?_
      refine zcut (X := Int32) (G := fun v9 H locs ls => v9 = (if p1 = (60 : Int32) then (5 : Int32) else (6 : Int32)) ∧ va_P D vwCl (wD h c st) H ∧ va_D A (wD h c st) ∧ va_S A s.heap H locs ∧ lv_has ls 9 [(0, .ref (h 20)), (1, .int p0), (2, .int p1), (3, .int p2), (4, .int p3), (5, .int r_1), (8, .int x_62)]) (fr := fun v9 ls => F0 m 451 ls [.int v9, .int x_65, .ref (h 20)]) (fun J_69 => ?_) (fun v9 H locs ls hG => ?_)
      · refine lv_icmp_ne (tgt := 449) hx hb d_D_middle_442 (by decide) (fun c_70 => ?_) (fun c_70 => ?_)
        · refine lv_bipush (v := (6 : Int32)) hx hb d_D_middle_449 (by decide) ?_
          exact J_69 (6 : Int32) _ _ _ ⟨by simp only [if_neg c_70], hP, hD, hS, hl⟩
        refine lv_iconst (v := (5 : Int32)) hx hb d_D_middle_445 (by decide) ?_
        refine lv_goto (tgt := 451) hx hb d_D_middle_446 (by decide) ?_
        exact J_69 (5 : Int32) _ _ _ ⟨by simp only [if_pos c_70], hP, hD, hS, hl⟩
      obtain ⟨x_68, rfl⟩ : ∃ z, z = v9 := ⟨_, rfl⟩
      obtain ⟨ex_68, hP, hD, hS, hl⟩ := hG
      refine zc_v (w2 := fun u9 => wD h c u9) (va_runV (As := [.int x_65, .int x_68]) (rest := []) ⟨hx, hb, hml, hown, ht⟩ (mt_D_traps l D h c H.size st x_65 x_68) (cwV 2 ht (zgV zw_1007 zw_1009 zs_59 zw_7 zw_1010) rfl rfl rfl kd_D_traps ⟨Nat.le_of_ble_eq_true rfl, Nat.le_of_ble_eq_true rfl⟩) ⟨zw_blind zw_tt, va_recv (hK.sub (tys' := [(c 21, .long), (c 22, .int), (c 23, .int), (c 24, .int), (c 25, .int), (c 26, .int), (c 27, .int), (c 28, .int)]) [0, 1, 2, 3, 4, 5, 6, 7] rfl) (hP.sub (ws' := wD h c st) [0, 1, 2, 3, 4, 5, 6, 7, 8] rfl) (ci := 6) (q0 := 0) rfl rfl, zw_go (hP.sub (ws' := wD h c st) [0, 1, 2, 3, 4, 5, 6, 7, 8] rfl) (hD.sub (ws' := wD h c st) [0, 1, 2, 3, 4, 5, 6, 7, 8] (by decide) rfl) (hK.sub (tys' := [(c 21, .long), (c 22, .int), (c 23, .int), (c 24, .int), (c 25, .int), (c 26, .int), (c 27, .int), (c 28, .int)]) [0, 1, 2, 3, 4, 5, 6, 7] rfl) (fun _ _ _ => trivial)⟩ rfl rfl hl.1 rfl (lv_room (Nat.le_of_ble_eq_true rfl)) d_D_middle_451 ⟨Nat.le_of_ble_eq_true rfl, Nat.le_of_ble_eq_true rfl⟩) hP hD hS hA [0, 1, 2, 3, 4, 5, 6, 7, 8] [] [0, 1, 2, 3, 4, 5, 6, 7, 8] rfl rfl (by decide) (by decide) (by decide) (fun _ => rfl) (fun u_71 H locs hw hP hD hS => ?_)
      have eu_71 := hw
      have ok_71 : okV u_71 := by rw [eu_71]; exact (ov_traps hV)
      refine lv_aload_n hx hb d_D_middle_454 rfl (lv_at hl 0 rfl) ?_
      refine va_get (D := D) (ci := 6) (v := .int (u_71.1 21)) (C := "WindowMachineModel") (T := T_D) (N := 31) hx hb ht zi_D hown hK hP 0 rfl rfl 29 (by decide) (ht _ zw_883) (fun _ h9 => h9) rfl d_D_middle_455 ?_
      refine lv_if_lt (tgt := 464) hx hb d_D_middle_458 (by decide) (fun c_72 => ?_) (fun c_72 => ?_)
      · refine lv_aload_n hx hb d_D_middle_464 rfl (lv_at hl 0 rfl) ?_
        refine lv_iload hx hb d_D_middle_465 (lv_at hl 6 rfl) ?_
        refine va_put (D := D) (ci := 6) (v := .int x_62) (ty := .int) (C := "WindowMachineModel") (T := T_D) (N := 31) hx hb ht zi_D ty_D tyok_D nm_D hown hK hP hD hS 0 rfl rfl 14 (by decide) (ht _ zw_868) (fun _ h9 => h9) rfl (by decide +kernel) rfl rfl (Nat.le_of_ble_eq_true rfl) d_D_middle_467 (fun H locs hP hD hS => ?_)
        have hP : va_P D vwCl (wD h c (upd u_71.1 6 x_62, u_71.2.1, u_71.2.2.1, u_71.2.2.2.1, u_71.2.2.2.2.1, u_71.2.2.2.2.2)) H := hP
        have hD : va_D A (wD h c (upd u_71.1 6 x_62, u_71.2.1, u_71.2.2.1, u_71.2.2.2.1, u_71.2.2.2.2.1, u_71.2.2.2.2.2)) := hD
        refine lv_aload_n hx hb d_D_middle_470 rfl (lv_at hl 0 rfl) ?_
        refine lv_iload_n hx hb d_D_middle_471 rfl (lv_at hl 1 rfl) ?_
        refine lv_aload_n hx hb d_D_middle_472 rfl (lv_at hl 0 rfl) ?_
        refine va_get (D := D) (ci := 6) (v := .int x_62) (C := "WindowMachineModel") (T := T_D) (N := 31) hx hb ht zi_D hown hK hP 0 rfl rfl 14 (by decide) (ht _ zw_868) (fun _ h9 => h9) rfl d_D_middle_473 ?_
        refine lv_iload hx hb d_D_middle_476 (lv_at hl 5 rfl) ?_
        refine lv_iload hx hb d_D_middle_478 (lv_at hl 4 rfl) ?_
        refine lv_iadd hx hb d_D_middle_480 ?_
        refine zc_v (w2 := fun u9 => wD h c u9) (va_runV (As := [.int p0, .int x_62, .int (r_1 + p3)]) (rest := []) ⟨hx, hb, hml, hown, ht⟩ (mt_D_gives l D h c H.size (upd u_71.1 6 x_62, u_71.2.1, u_71.2.2.1, u_71.2.2.2.1, u_71.2.2.2.2.1, u_71.2.2.2.2.2) p0 x_62 (r_1 + p3) hr9 (by rw [ex_62]; (repeat' split) <;> exact b3_in _)) (cwV 3 ht (zgV zw_990 zw_992 zs_57 zw_7 zw_993) rfl rfl rfl kd_D_gives ⟨Nat.le_of_ble_eq_true rfl, Nat.le_of_ble_eq_true rfl⟩) ⟨zw_blind zw_tt, va_recv (hK.sub (tys' := [(c 21, .long), (c 22, .int), (c 23, .int), (c 24, .int), (c 25, .int), (c 26, .int), (c 27, .int), (c 28, .int)]) [0, 1, 2, 3, 4, 5, 6, 7] rfl) (hP.sub (ws' := wD h c (upd u_71.1 6 x_62, u_71.2.1, u_71.2.2.1, u_71.2.2.2.1, u_71.2.2.2.2.1, u_71.2.2.2.2.2)) [0, 1, 2, 3, 4, 5, 6, 7, 8] rfl) (ci := 6) (q0 := 0) rfl rfl, zw_go (hP.sub (ws' := wD h c (upd u_71.1 6 x_62, u_71.2.1, u_71.2.2.1, u_71.2.2.2.1, u_71.2.2.2.2.1, u_71.2.2.2.2.2)) [0, 1, 2, 3, 4, 5, 6, 7, 8] rfl) (hD.sub (ws' := wD h c (upd u_71.1 6 x_62, u_71.2.1, u_71.2.2.1, u_71.2.2.2.1, u_71.2.2.2.2.1, u_71.2.2.2.2.2)) [0, 1, 2, 3, 4, 5, 6, 7, 8] (by decide) rfl) (hK.sub (tys' := [(c 21, .long), (c 22, .int), (c 23, .int), (c 24, .int), (c 25, .int), (c 26, .int), (c 27, .int), (c 28, .int)]) [0, 1, 2, 3, 4, 5, 6, 7] rfl) (fun _ _ _ => trivial)⟩ rfl rfl hl.1 rfl (lv_room (Nat.le_of_ble_eq_true rfl)) d_D_middle_481 ⟨Nat.le_of_ble_eq_true rfl, Nat.le_of_ble_eq_true rfl⟩) hP hD hS hA [0, 1, 2, 3, 4, 5, 6, 7, 8] [] [0, 1, 2, 3, 4, 5, 6, 7, 8] rfl rfl (by decide) (by decide) (by decide) (fun _ => rfl) (fun u_73 H locs hw hP hD hS => ?_)
        have eu_73 := hw
        refine lv_goto (tgt := 492) hx hb d_D_middle_484 (by decide) ?_
        exact zl_v (u := u_73) hx hb hr hlocks hS hP hD (by simp only [m_middle, ← er_1, ← ex_62, ← ex_65, ← ex_68, ← eu_71, ← eu_73]; try simp only [if_pos c_2, if_neg c_4, if_neg c_14, if_neg c_16, if_neg c_18, if_neg c_20, if_neg c_22, if_neg c_24, if_neg c_26, if_neg c_28, if_neg c_30, if_neg c_32, if_neg c_34, if_neg c_36, if_neg c_43, if_neg c_45, if_neg c_48, if_pos c_61, if_pos c_72]) d_D_middle_492
      refine lv_goto (tgt := 492) hx hb d_D_middle_461 (by decide) ?_
      exact zl_v (u := u_71) hx hb hr hlocks hS hP hD (by simp only [m_middle, ← er_1, ← ex_62, ← ex_65, ← ex_68, ← eu_71]; try simp only [if_pos c_2, if_neg c_4, if_neg c_14, if_neg c_16, if_neg c_18, if_neg c_20, if_neg c_22, if_neg c_24, if_neg c_26, if_neg c_28, if_neg c_30, if_neg c_32, if_neg c_34, if_neg c_36, if_neg c_43, if_neg c_45, if_neg c_48, if_pos c_61, if_neg c_72]) d_D_middle_492
    refine zsame (g := F0 m 487 ls []) ?_ (fun hd_3 => ?_)
    · refine lv_aload_n hx hb d_D_middle_487 rfl (lv_at hl 1 rfl) ?_
      refine lv_iconst (v := (2 : Int32)) hx hb d_D_middle_488 (by decide) ?_
      refine va_put (D := D) (ci := 6) (v := .int (2 : Int32)) (ty := .int) (C := "WindowMachineModel") (T := T_D) (N := 31) hx hb ht zi_D ty_D tyok_D nm_D hown hK hP hD hS 0 rfl rfl 29 (by decide) (ht _ zw_883) (fun _ h9 => h9) rfl (by decide +kernel) rfl rfl (Nat.le_of_ble_eq_true rfl) d_D_middle_489 (fun H locs hP hD hS => ?_)
      have hP : va_P D vwCl (wD h c (upd st.1 21 (2 : Int32), st.2.1, st.2.2.1, st.2.2.2.1, st.2.2.2.2.1, st.2.2.2.2.2)) H := hP
      have hD : va_D A (wD h c (upd st.1 21 (2 : Int32), st.2.1, st.2.2.1, st.2.2.2.1, st.2.2.2.2.1, st.2.2.2.2.2)) := hD
      exact zl_v (u := (upd st.1 21 (2 : Int32), st.2.1, st.2.2.1, st.2.2.2.1, st.2.2.2.2.1, st.2.2.2.2.2)) hx hb hr hlocks hS hP hD (by simp only [m_middle, ← er_1]; try simp only [if_pos c_2, if_neg c_4, if_neg c_14, if_neg c_16, if_neg c_18, if_neg c_20, if_neg c_22, if_neg c_24, if_neg c_26, if_neg c_28, if_neg c_30, if_neg c_32, if_neg c_34, if_neg c_36, if_neg c_43, if_neg c_45, if_neg c_48, if_neg c_61]) d_D_middle_492
    by_cases c_74 : p1 = (44 : Int32)
    · exact lv_tableIn (tgt := 487) hx hb d_D_middle_31 (by rw [c_74]; decide) (by rw [c_74]; decide) (by rw [c_74]; rfl) (by decide) hd_3
    by_cases c_75 : p1 = (45 : Int32)
    · exact lv_tableIn (tgt := 487) hx hb d_D_middle_31 (by rw [c_75]; decide) (by rw [c_75]; decide) (by rw [c_75]; rfl) (by decide) hd_3
    by_cases c_76 : p1 = (46 : Int32)
    · exact lv_tableIn (tgt := 487) hx hb d_D_middle_31 (by rw [c_76]; decide) (by rw [c_76]; decide) (by rw [c_76]; rfl) (by decide) hd_3
    by_cases c_77 : p1 = (47 : Int32)
    · exact lv_tableIn (tgt := 487) hx hb d_D_middle_31 (by rw [c_77]; decide) (by rw [c_77]; decide) (by rw [c_77]; rfl) (by decide) hd_3
    by_cases c_78 : p1 = (52 : Int32)
    · exact lv_tableIn (tgt := 487) hx hb d_D_middle_31 (by rw [c_78]; decide) (by rw [c_78]; decide) (by rw [c_78]; rfl) (by decide) hd_3
    by_cases c_79 : p1 = (53 : Int32)
    · exact lv_tableIn (tgt := 487) hx hb d_D_middle_31 (by rw [c_79]; decide) (by rw [c_79]; decide) (by rw [c_79]; rfl) (by decide) hd_3
    by_cases c_80 : p1 = (54 : Int32)
    · exact lv_tableIn (tgt := 487) hx hb d_D_middle_31 (by rw [c_80]; decide) (by rw [c_80]; decide) (by rw [c_80]; rfl) (by decide) hd_3
    by_cases c_81 : p1 = (55 : Int32)
    · exact lv_tableIn (tgt := 487) hx hb d_D_middle_31 (by rw [c_81]; decide) (by rw [c_81]; decide) (by rw [c_81]; rfl) (by decide) hd_3
    by_cases c_82 : p1 = (59 : Int32)
    · exact lv_tableIn (tgt := 487) hx hb d_D_middle_31 (by rw [c_82]; decide) (by rw [c_82]; decide) (by rw [c_82]; rfl) (by decide) hd_3
    exact lv_tableOut (tgt := 487) hx hb d_D_middle_31 (by have := lv_neT c_4 (a := 36) (by decide); have := lv_neT c_14 (a := 37) (by decide); have := lv_neT c_16 (a := 38) (by decide); have := lv_neT c_18 (a := 39) (by decide); have := lv_neT c_20 (a := 40) (by decide); have := lv_neT c_22 (a := 41) (by decide); have := lv_neT c_24 (a := 42) (by decide); have := lv_neT c_26 (a := 43) (by decide); have := lv_neT c_74 (a := 44) (by decide); have := lv_neT c_75 (a := 45) (by decide); have := lv_neT c_76 (a := 46) (by decide); have := lv_neT c_77 (a := 47) (by decide); have := lv_neT c_28 (a := 48) (by decide); have := lv_neT c_30 (a := 49) (by decide); have := lv_neT c_32 (a := 50) (by decide); have := lv_neT c_34 (a := 51) (by decide); have := lv_neT c_78 (a := 52) (by decide); have := lv_neT c_79 (a := 53) (by decide); have := lv_neT c_80 (a := 54) (by decide); have := lv_neT c_81 (a := 55) (by decide); have := lv_neT c_36 (a := 56) (by decide); have := lv_neT c_43 (a := 57) (by decide); have := lv_neT c_45 (a := 58) (by decide); have := lv_neT c_82 (a := 59) (by decide); have := lv_neT c_48 (a := 60) (by decide); have := lv_neT c_61 (a := 61) (by decide); omega) (by decide) hd_3
  refine lv_aload_n hx hb d_D_middle_17 rfl (lv_at hl 1 rfl) ?_
  refine lv_iload_n hx hb d_D_middle_18 rfl (lv_at hl 3 rfl) ?_
  refine lv_iload_n hx hb d_D_middle_19 rfl (lv_at hl 2 rfl) ?_
  refine lv_iload hx hb d_D_middle_20 (lv_at hl 0 rfl) ?_
  refine lv_iload hx hb d_D_middle_22 (lv_at hl 5 rfl) ?_
  refine zc_v (w2 := fun u9 => wD h c u9) (va_runV (As := [.int p1, .int p0, .int r_1, .int p3]) (rest := []) ⟨hx, hb, hml, hown, ht⟩ (mt_D_reckons l D h c H.size st p1 p0 r_1 p3 hV hr9) (cwV 4 ht (zgV zw_1027 zw_1029 zs_64 zw_7 zw_1030) rfl rfl rfl kd_D_reckons ⟨Nat.le_of_ble_eq_true rfl, Nat.le_of_ble_eq_true rfl⟩) ⟨zw_blind zw_tt, va_recv (hK.sub (tys' := [(c 21, .long), (c 22, .int), (c 23, .int), (c 24, .int), (c 25, .int), (c 26, .int), (c 27, .int), (c 28, .int)]) [0, 1, 2, 3, 4, 5, 6, 7] rfl) (hP.sub (ws' := wD h c st) [0, 1, 2, 3, 4, 5, 6, 7, 8] rfl) (ci := 6) (q0 := 0) rfl rfl, zw_go (hP.sub (ws' := wD h c st) [0, 1, 2, 3, 4, 5, 6, 7, 8] rfl) (hD.sub (ws' := wD h c st) [0, 1, 2, 3, 4, 5, 6, 7, 8] (by decide) rfl) (hK.sub (tys' := [(c 21, .long), (c 22, .int), (c 23, .int), (c 24, .int), (c 25, .int), (c 26, .int), (c 27, .int), (c 28, .int)]) [0, 1, 2, 3, 4, 5, 6, 7] rfl) (fun _ _ _ => trivial)⟩ rfl rfl hl.1 rfl (lv_room (Nat.le_of_ble_eq_true rfl)) d_D_middle_24 ⟨Nat.le_of_ble_eq_true rfl, Nat.le_of_ble_eq_true rfl⟩) hP hD hS hA [0, 1, 2, 3, 4, 5, 6, 7, 8] [] [0, 1, 2, 3, 4, 5, 6, 7, 8] rfl rfl (by decide) (by decide) (by decide) (fun _ => rfl) (fun u_83 H locs hw hP hD hS => ?_)
  have eu_83 := hw
  have ok_83 : okV u_83 := by rw [eu_83]; exact (ov_reckons hV)
  refine lv_goto (tgt := 492) hx hb d_D_middle_27 (by decide) ?_
  exact zl_v (u := u_83) hx hb hr hlocks hS hP hD (by simp only [m_middle, ← er_1, ← eu_83]; try simp only [if_neg c_2]) d_D_middle_492
