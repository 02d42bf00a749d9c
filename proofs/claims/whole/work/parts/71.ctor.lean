theorem d_D_init_0 : decode c_D_init 0 = .ok (.aload_n 0, 1) := by decide +kernel
theorem d_D_init_1 : decode c_D_init 1 = .ok (.invokespecial 1, 3) := by decide +kernel
theorem d_D_init_4 : decode c_D_init 4 = .ok (.aload_n 0, 1) := by decide +kernel
theorem d_D_init_5 : decode c_D_init 5 = .ok (.bipush 91, 2) := by decide +kernel
theorem d_D_init_7 : decode c_D_init 7 = .ok (.newarray .long, 2) := by decide +kernel
theorem d_D_init_9 : decode c_D_init 9 = .ok (.dup, 1) := by decide +kernel
theorem d_D_init_10 : decode c_D_init 10 = .ok (.iconst 0, 1) := by decide +kernel
theorem d_D_init_11 : decode c_D_init 11 = .ok (.ldc2_w 7, 3) := by decide +kernel
theorem d_D_init_14 : decode c_D_init 14 = .ok (.lastore, 1) := by decide +kernel
theorem d_D_init_15 : decode c_D_init 15 = .ok (.dup, 1) := by decide +kernel
theorem d_D_init_16 : decode c_D_init 16 = .ok (.iconst 1, 1) := by decide +kernel
theorem d_D_init_17 : decode c_D_init 17 = .ok (.ldc2_w 9, 3) := by decide +kernel
theorem d_D_init_20 : decode c_D_init 20 = .ok (.lastore, 1) := by decide +kernel
theorem d_D_init_21 : decode c_D_init 21 = .ok (.dup, 1) := by decide +kernel
theorem d_D_init_22 : decode c_D_init 22 = .ok (.iconst 2, 1) := by decide +kernel
theorem d_D_init_23 : decode c_D_init 23 = .ok (.ldc2_w 11, 3) := by decide +kernel
theorem d_D_init_26 : decode c_D_init 26 = .ok (.lastore, 1) := by decide +kernel
theorem d_D_init_27 : decode c_D_init 27 = .ok (.dup, 1) := by decide +kernel
theorem d_D_init_28 : decode c_D_init 28 = .ok (.iconst 3, 1) := by decide +kernel
theorem d_D_init_29 : decode c_D_init 29 = .ok (.ldc2_w 13, 3) := by decide +kernel
theorem d_D_init_32 : decode c_D_init 32 = .ok (.lastore, 1) := by decide +kernel
theorem d_D_init_33 : decode c_D_init 33 = .ok (.dup, 1) := by decide +kernel
theorem d_D_init_34 : decode c_D_init 34 = .ok (.iconst 4, 1) := by decide +kernel
theorem d_D_init_35 : decode c_D_init 35 = .ok (.ldc2_w 15, 3) := by decide +kernel
theorem d_D_init_38 : decode c_D_init 38 = .ok (.lastore, 1) := by decide +kernel
theorem d_D_init_39 : decode c_D_init 39 = .ok (.dup, 1) := by decide +kernel
theorem d_D_init_40 : decode c_D_init 40 = .ok (.iconst 5, 1) := by decide +kernel
theorem d_D_init_41 : decode c_D_init 41 = .ok (.ldc2_w 17, 3) := by decide +kernel
theorem d_D_init_44 : decode c_D_init 44 = .ok (.lastore, 1) := by decide +kernel
theorem d_D_init_45 : decode c_D_init 45 = .ok (.dup, 1) := by decide +kernel
theorem d_D_init_46 : decode c_D_init 46 = .ok (.bipush 6, 2) := by decide +kernel
theorem d_D_init_48 : decode c_D_init 48 = .ok (.ldc2_w 19, 3) := by decide +kernel
theorem d_D_init_51 : decode c_D_init 51 = .ok (.lastore, 1) := by decide +kernel
theorem d_D_init_52 : decode c_D_init 52 = .ok (.dup, 1) := by decide +kernel
theorem d_D_init_53 : decode c_D_init 53 = .ok (.bipush 7, 2) := by decide +kernel
theorem d_D_init_55 : decode c_D_init 55 = .ok (.ldc2_w 21, 3) := by decide +kernel
theorem d_D_init_58 : decode c_D_init 58 = .ok (.lastore, 1) := by decide +kernel
theorem d_D_init_59 : decode c_D_init 59 = .ok (.dup, 1) := by decide +kernel
theorem d_D_init_60 : decode c_D_init 60 = .ok (.bipush 8, 2) := by decide +kernel
theorem d_D_init_62 : decode c_D_init 62 = .ok (.ldc2_w 23, 3) := by decide +kernel
theorem d_D_init_65 : decode c_D_init 65 = .ok (.lastore, 1) := by decide +kernel
theorem d_D_init_66 : decode c_D_init 66 = .ok (.dup, 1) := by decide +kernel
theorem d_D_init_67 : decode c_D_init 67 = .ok (.bipush 9, 2) := by decide +kernel
theorem d_D_init_69 : decode c_D_init 69 = .ok (.ldc2_w 25, 3) := by decide +kernel
theorem d_D_init_72 : decode c_D_init 72 = .ok (.lastore, 1) := by decide +kernel
theorem d_D_init_73 : decode c_D_init 73 = .ok (.dup, 1) := by decide +kernel
theorem d_D_init_74 : decode c_D_init 74 = .ok (.bipush 10, 2) := by decide +kernel
theorem d_D_init_76 : decode c_D_init 76 = .ok (.ldc2_w 27, 3) := by decide +kernel
theorem d_D_init_79 : decode c_D_init 79 = .ok (.lastore, 1) := by decide +kernel
theorem d_D_init_80 : decode c_D_init 80 = .ok (.dup, 1) := by decide +kernel
theorem d_D_init_81 : decode c_D_init 81 = .ok (.bipush 11, 2) := by decide +kernel
theorem d_D_init_83 : decode c_D_init 83 = .ok (.ldc2_w 29, 3) := by decide +kernel
theorem d_D_init_86 : decode c_D_init 86 = .ok (.lastore, 1) := by decide +kernel
theorem d_D_init_87 : decode c_D_init 87 = .ok (.dup, 1) := by decide +kernel
theorem d_D_init_88 : decode c_D_init 88 = .ok (.bipush 12, 2) := by decide +kernel
theorem d_D_init_90 : decode c_D_init 90 = .ok (.ldc2_w 31, 3) := by decide +kernel
theorem d_D_init_93 : decode c_D_init 93 = .ok (.lastore, 1) := by decide +kernel
theorem d_D_init_94 : decode c_D_init 94 = .ok (.dup, 1) := by decide +kernel
theorem d_D_init_95 : decode c_D_init 95 = .ok (.bipush 13, 2) := by decide +kernel
theorem d_D_init_97 : decode c_D_init 97 = .ok (.ldc2_w 33, 3) := by decide +kernel
theorem d_D_init_100 : decode c_D_init 100 = .ok (.lastore, 1) := by decide +kernel
theorem d_D_init_101 : decode c_D_init 101 = .ok (.dup, 1) := by decide +kernel
theorem d_D_init_102 : decode c_D_init 102 = .ok (.bipush 14, 2) := by decide +kernel
theorem d_D_init_104 : decode c_D_init 104 = .ok (.ldc2_w 35, 3) := by decide +kernel
theorem d_D_init_107 : decode c_D_init 107 = .ok (.lastore, 1) := by decide +kernel
theorem d_D_init_108 : decode c_D_init 108 = .ok (.dup, 1) := by decide +kernel
theorem d_D_init_109 : decode c_D_init 109 = .ok (.bipush 15, 2) := by decide +kernel
theorem d_D_init_111 : decode c_D_init 111 = .ok (.ldc2_w 37, 3) := by decide +kernel
theorem d_D_init_114 : decode c_D_init 114 = .ok (.lastore, 1) := by decide +kernel
theorem d_D_init_115 : decode c_D_init 115 = .ok (.dup, 1) := by decide +kernel
theorem d_D_init_116 : decode c_D_init 116 = .ok (.bipush 16, 2) := by decide +kernel
theorem d_D_init_118 : decode c_D_init 118 = .ok (.ldc2_w 39, 3) := by decide +kernel
theorem d_D_init_121 : decode c_D_init 121 = .ok (.lastore, 1) := by decide +kernel
theorem d_D_init_122 : decode c_D_init 122 = .ok (.dup, 1) := by decide +kernel
theorem d_D_init_123 : decode c_D_init 123 = .ok (.bipush 17, 2) := by decide +kernel
theorem d_D_init_125 : decode c_D_init 125 = .ok (.ldc2_w 41, 3) := by decide +kernel
theorem d_D_init_128 : decode c_D_init 128 = .ok (.lastore, 1) := by decide +kernel
theorem d_D_init_129 : decode c_D_init 129 = .ok (.dup, 1) := by decide +kernel
theorem d_D_init_130 : decode c_D_init 130 = .ok (.bipush 18, 2) := by decide +kernel
theorem d_D_init_132 : decode c_D_init 132 = .ok (.ldc2_w 43, 3) := by decide +kernel
theorem d_D_init_135 : decode c_D_init 135 = .ok (.lastore, 1) := by decide +kernel
theorem d_D_init_136 : decode c_D_init 136 = .ok (.dup, 1) := by decide +kernel
theorem d_D_init_137 : decode c_D_init 137 = .ok (.bipush 19, 2) := by decide +kernel
theorem d_D_init_139 : decode c_D_init 139 = .ok (.ldc2_w 45, 3) := by decide +kernel
theorem d_D_init_142 : decode c_D_init 142 = .ok (.lastore, 1) := by decide +kernel
theorem d_D_init_143 : decode c_D_init 143 = .ok (.dup, 1) := by decide +kernel
theorem d_D_init_144 : decode c_D_init 144 = .ok (.bipush 20, 2) := by decide +kernel
theorem d_D_init_146 : decode c_D_init 146 = .ok (.ldc2_w 47, 3) := by decide +kernel
theorem d_D_init_149 : decode c_D_init 149 = .ok (.lastore, 1) := by decide +kernel
theorem d_D_init_150 : decode c_D_init 150 = .ok (.dup, 1) := by decide +kernel
theorem d_D_init_151 : decode c_D_init 151 = .ok (.bipush 21, 2) := by decide +kernel
theorem d_D_init_153 : decode c_D_init 153 = .ok (.ldc2_w 49, 3) := by decide +kernel
theorem d_D_init_156 : decode c_D_init 156 = .ok (.lastore, 1) := by decide +kernel
theorem d_D_init_157 : decode c_D_init 157 = .ok (.dup, 1) := by decide +kernel
theorem d_D_init_158 : decode c_D_init 158 = .ok (.bipush 22, 2) := by decide +kernel
theorem d_D_init_160 : decode c_D_init 160 = .ok (.ldc2_w 51, 3) := by decide +kernel
theorem d_D_init_163 : decode c_D_init 163 = .ok (.lastore, 1) := by decide +kernel
theorem d_D_init_164 : decode c_D_init 164 = .ok (.dup, 1) := by decide +kernel
theorem d_D_init_165 : decode c_D_init 165 = .ok (.bipush 23, 2) := by decide +kernel
theorem d_D_init_167 : decode c_D_init 167 = .ok (.ldc2_w 53, 3) := by decide +kernel
theorem d_D_init_170 : decode c_D_init 170 = .ok (.lastore, 1) := by decide +kernel
theorem d_D_init_171 : decode c_D_init 171 = .ok (.dup, 1) := by decide +kernel
theorem d_D_init_172 : decode c_D_init 172 = .ok (.bipush 24, 2) := by decide +kernel
theorem d_D_init_174 : decode c_D_init 174 = .ok (.ldc2_w 55, 3) := by decide +kernel
theorem d_D_init_177 : decode c_D_init 177 = .ok (.lastore, 1) := by decide +kernel
theorem d_D_init_178 : decode c_D_init 178 = .ok (.dup, 1) := by decide +kernel
theorem d_D_init_179 : decode c_D_init 179 = .ok (.bipush 25, 2) := by decide +kernel
theorem d_D_init_181 : decode c_D_init 181 = .ok (.ldc2_w 57, 3) := by decide +kernel
theorem d_D_init_184 : decode c_D_init 184 = .ok (.lastore, 1) := by decide +kernel
theorem d_D_init_185 : decode c_D_init 185 = .ok (.dup, 1) := by decide +kernel
theorem d_D_init_186 : decode c_D_init 186 = .ok (.bipush 26, 2) := by decide +kernel
theorem d_D_init_188 : decode c_D_init 188 = .ok (.ldc2_w 59, 3) := by decide +kernel
theorem d_D_init_191 : decode c_D_init 191 = .ok (.lastore, 1) := by decide +kernel
theorem d_D_init_192 : decode c_D_init 192 = .ok (.dup, 1) := by decide +kernel
theorem d_D_init_193 : decode c_D_init 193 = .ok (.bipush 27, 2) := by decide +kernel
theorem d_D_init_195 : decode c_D_init 195 = .ok (.ldc2_w 61, 3) := by decide +kernel
theorem d_D_init_198 : decode c_D_init 198 = .ok (.lastore, 1) := by decide +kernel
theorem d_D_init_199 : decode c_D_init 199 = .ok (.dup, 1) := by decide +kernel
theorem d_D_init_200 : decode c_D_init 200 = .ok (.bipush 28, 2) := by decide +kernel
theorem d_D_init_202 : decode c_D_init 202 = .ok (.ldc2_w 63, 3) := by decide +kernel
theorem d_D_init_205 : decode c_D_init 205 = .ok (.lastore, 1) := by decide +kernel
theorem d_D_init_206 : decode c_D_init 206 = .ok (.dup, 1) := by decide +kernel
theorem d_D_init_207 : decode c_D_init 207 = .ok (.bipush 29, 2) := by decide +kernel
theorem d_D_init_209 : decode c_D_init 209 = .ok (.ldc2_w 65, 3) := by decide +kernel
theorem d_D_init_212 : decode c_D_init 212 = .ok (.lastore, 1) := by decide +kernel
theorem d_D_init_213 : decode c_D_init 213 = .ok (.dup, 1) := by decide +kernel
theorem d_D_init_214 : decode c_D_init 214 = .ok (.bipush 30, 2) := by decide +kernel
theorem d_D_init_216 : decode c_D_init 216 = .ok (.ldc2_w 67, 3) := by decide +kernel
theorem d_D_init_219 : decode c_D_init 219 = .ok (.lastore, 1) := by decide +kernel
theorem d_D_init_220 : decode c_D_init 220 = .ok (.dup, 1) := by decide +kernel
theorem d_D_init_221 : decode c_D_init 221 = .ok (.bipush 31, 2) := by decide +kernel
theorem d_D_init_223 : decode c_D_init 223 = .ok (.ldc2_w 69, 3) := by decide +kernel
theorem d_D_init_226 : decode c_D_init 226 = .ok (.lastore, 1) := by decide +kernel
theorem d_D_init_227 : decode c_D_init 227 = .ok (.dup, 1) := by decide +kernel
theorem d_D_init_228 : decode c_D_init 228 = .ok (.bipush 32, 2) := by decide +kernel
theorem d_D_init_230 : decode c_D_init 230 = .ok (.ldc2_w 71, 3) := by decide +kernel
theorem d_D_init_233 : decode c_D_init 233 = .ok (.lastore, 1) := by decide +kernel
theorem d_D_init_234 : decode c_D_init 234 = .ok (.dup, 1) := by decide +kernel
theorem d_D_init_235 : decode c_D_init 235 = .ok (.bipush 33, 2) := by decide +kernel
theorem d_D_init_237 : decode c_D_init 237 = .ok (.ldc2_w 73, 3) := by decide +kernel
theorem d_D_init_240 : decode c_D_init 240 = .ok (.lastore, 1) := by decide +kernel
theorem d_D_init_241 : decode c_D_init 241 = .ok (.dup, 1) := by decide +kernel
theorem d_D_init_242 : decode c_D_init 242 = .ok (.bipush 34, 2) := by decide +kernel
theorem d_D_init_244 : decode c_D_init 244 = .ok (.ldc2_w 75, 3) := by decide +kernel
theorem d_D_init_247 : decode c_D_init 247 = .ok (.lastore, 1) := by decide +kernel
theorem d_D_init_248 : decode c_D_init 248 = .ok (.dup, 1) := by decide +kernel
theorem d_D_init_249 : decode c_D_init 249 = .ok (.bipush 35, 2) := by decide +kernel
theorem d_D_init_251 : decode c_D_init 251 = .ok (.ldc2_w 77, 3) := by decide +kernel
theorem d_D_init_254 : decode c_D_init 254 = .ok (.lastore, 1) := by decide +kernel
theorem d_D_init_255 : decode c_D_init 255 = .ok (.dup, 1) := by decide +kernel
theorem d_D_init_256 : decode c_D_init 256 = .ok (.bipush 36, 2) := by decide +kernel
theorem d_D_init_258 : decode c_D_init 258 = .ok (.ldc2_w 79, 3) := by decide +kernel
theorem d_D_init_261 : decode c_D_init 261 = .ok (.lastore, 1) := by decide +kernel
theorem d_D_init_262 : decode c_D_init 262 = .ok (.dup, 1) := by decide +kernel
theorem d_D_init_263 : decode c_D_init 263 = .ok (.bipush 37, 2) := by decide +kernel
theorem d_D_init_265 : decode c_D_init 265 = .ok (.ldc2_w 81, 3) := by decide +kernel
theorem d_D_init_268 : decode c_D_init 268 = .ok (.lastore, 1) := by decide +kernel
theorem d_D_init_269 : decode c_D_init 269 = .ok (.dup, 1) := by decide +kernel
theorem d_D_init_270 : decode c_D_init 270 = .ok (.bipush 38, 2) := by decide +kernel
theorem d_D_init_272 : decode c_D_init 272 = .ok (.ldc2_w 83, 3) := by decide +kernel
theorem d_D_init_275 : decode c_D_init 275 = .ok (.lastore, 1) := by decide +kernel
theorem d_D_init_276 : decode c_D_init 276 = .ok (.dup, 1) := by decide +kernel
theorem d_D_init_277 : decode c_D_init 277 = .ok (.bipush 39, 2) := by decide +kernel
theorem d_D_init_279 : decode c_D_init 279 = .ok (.ldc2_w 85, 3) := by decide +kernel
theorem d_D_init_282 : decode c_D_init 282 = .ok (.lastore, 1) := by decide +kernel
theorem d_D_init_283 : decode c_D_init 283 = .ok (.dup, 1) := by decide +kernel
theorem d_D_init_284 : decode c_D_init 284 = .ok (.bipush 40, 2) := by decide +kernel
theorem d_D_init_286 : decode c_D_init 286 = .ok (.ldc2_w 87, 3) := by decide +kernel
theorem d_D_init_289 : decode c_D_init 289 = .ok (.lastore, 1) := by decide +kernel
theorem d_D_init_290 : decode c_D_init 290 = .ok (.dup, 1) := by decide +kernel
theorem d_D_init_291 : decode c_D_init 291 = .ok (.bipush 41, 2) := by decide +kernel
theorem d_D_init_293 : decode c_D_init 293 = .ok (.ldc2_w 89, 3) := by decide +kernel
theorem d_D_init_296 : decode c_D_init 296 = .ok (.lastore, 1) := by decide +kernel
theorem d_D_init_297 : decode c_D_init 297 = .ok (.dup, 1) := by decide +kernel
theorem d_D_init_298 : decode c_D_init 298 = .ok (.bipush 42, 2) := by decide +kernel
theorem d_D_init_300 : decode c_D_init 300 = .ok (.ldc2_w 91, 3) := by decide +kernel
theorem d_D_init_303 : decode c_D_init 303 = .ok (.lastore, 1) := by decide +kernel
theorem d_D_init_304 : decode c_D_init 304 = .ok (.dup, 1) := by decide +kernel
theorem d_D_init_305 : decode c_D_init 305 = .ok (.bipush 43, 2) := by decide +kernel
theorem d_D_init_307 : decode c_D_init 307 = .ok (.ldc2_w 93, 3) := by decide +kernel
theorem d_D_init_310 : decode c_D_init 310 = .ok (.lastore, 1) := by decide +kernel
theorem d_D_init_311 : decode c_D_init 311 = .ok (.dup, 1) := by decide +kernel
theorem d_D_init_312 : decode c_D_init 312 = .ok (.bipush 44, 2) := by decide +kernel
theorem d_D_init_314 : decode c_D_init 314 = .ok (.ldc2_w 95, 3) := by decide +kernel
theorem d_D_init_317 : decode c_D_init 317 = .ok (.lastore, 1) := by decide +kernel
theorem d_D_init_318 : decode c_D_init 318 = .ok (.dup, 1) := by decide +kernel
theorem d_D_init_319 : decode c_D_init 319 = .ok (.bipush 45, 2) := by decide +kernel
theorem d_D_init_321 : decode c_D_init 321 = .ok (.ldc2_w 97, 3) := by decide +kernel
theorem d_D_init_324 : decode c_D_init 324 = .ok (.lastore, 1) := by decide +kernel
theorem d_D_init_325 : decode c_D_init 325 = .ok (.dup, 1) := by decide +kernel
theorem d_D_init_326 : decode c_D_init 326 = .ok (.bipush 46, 2) := by decide +kernel
theorem d_D_init_328 : decode c_D_init 328 = .ok (.ldc2_w 99, 3) := by decide +kernel
theorem d_D_init_331 : decode c_D_init 331 = .ok (.lastore, 1) := by decide +kernel
theorem d_D_init_332 : decode c_D_init 332 = .ok (.dup, 1) := by decide +kernel
theorem d_D_init_333 : decode c_D_init 333 = .ok (.bipush 47, 2) := by decide +kernel
theorem d_D_init_335 : decode c_D_init 335 = .ok (.ldc2_w 101, 3) := by decide +kernel
theorem d_D_init_338 : decode c_D_init 338 = .ok (.lastore, 1) := by decide +kernel
theorem d_D_init_339 : decode c_D_init 339 = .ok (.dup, 1) := by decide +kernel
theorem d_D_init_340 : decode c_D_init 340 = .ok (.bipush 48, 2) := by decide +kernel
theorem d_D_init_342 : decode c_D_init 342 = .ok (.ldc2_w 103, 3) := by decide +kernel
theorem d_D_init_345 : decode c_D_init 345 = .ok (.lastore, 1) := by decide +kernel
theorem d_D_init_346 : decode c_D_init 346 = .ok (.dup, 1) := by decide +kernel
theorem d_D_init_347 : decode c_D_init 347 = .ok (.bipush 49, 2) := by decide +kernel
theorem d_D_init_349 : decode c_D_init 349 = .ok (.ldc2_w 105, 3) := by decide +kernel
theorem d_D_init_352 : decode c_D_init 352 = .ok (.lastore, 1) := by decide +kernel
theorem d_D_init_353 : decode c_D_init 353 = .ok (.dup, 1) := by decide +kernel
theorem d_D_init_354 : decode c_D_init 354 = .ok (.bipush 50, 2) := by decide +kernel
theorem d_D_init_356 : decode c_D_init 356 = .ok (.ldc2_w 107, 3) := by decide +kernel
theorem d_D_init_359 : decode c_D_init 359 = .ok (.lastore, 1) := by decide +kernel
theorem d_D_init_360 : decode c_D_init 360 = .ok (.dup, 1) := by decide +kernel
theorem d_D_init_361 : decode c_D_init 361 = .ok (.bipush 51, 2) := by decide +kernel
theorem d_D_init_363 : decode c_D_init 363 = .ok (.ldc2_w 109, 3) := by decide +kernel
theorem d_D_init_366 : decode c_D_init 366 = .ok (.lastore, 1) := by decide +kernel
theorem d_D_init_367 : decode c_D_init 367 = .ok (.dup, 1) := by decide +kernel
theorem d_D_init_368 : decode c_D_init 368 = .ok (.bipush 52, 2) := by decide +kernel
theorem d_D_init_370 : decode c_D_init 370 = .ok (.ldc2_w 111, 3) := by decide +kernel
theorem d_D_init_373 : decode c_D_init 373 = .ok (.lastore, 1) := by decide +kernel
theorem d_D_init_374 : decode c_D_init 374 = .ok (.dup, 1) := by decide +kernel
theorem d_D_init_375 : decode c_D_init 375 = .ok (.bipush 53, 2) := by decide +kernel
theorem d_D_init_377 : decode c_D_init 377 = .ok (.ldc2_w 113, 3) := by decide +kernel
theorem d_D_init_380 : decode c_D_init 380 = .ok (.lastore, 1) := by decide +kernel
theorem d_D_init_381 : decode c_D_init 381 = .ok (.dup, 1) := by decide +kernel
theorem d_D_init_382 : decode c_D_init 382 = .ok (.bipush 54, 2) := by decide +kernel
theorem d_D_init_384 : decode c_D_init 384 = .ok (.ldc2_w 115, 3) := by decide +kernel
theorem d_D_init_387 : decode c_D_init 387 = .ok (.lastore, 1) := by decide +kernel
theorem d_D_init_388 : decode c_D_init 388 = .ok (.dup, 1) := by decide +kernel
theorem d_D_init_389 : decode c_D_init 389 = .ok (.bipush 55, 2) := by decide +kernel
theorem d_D_init_391 : decode c_D_init 391 = .ok (.ldc2_w 117, 3) := by decide +kernel
theorem d_D_init_394 : decode c_D_init 394 = .ok (.lastore, 1) := by decide +kernel
theorem d_D_init_395 : decode c_D_init 395 = .ok (.dup, 1) := by decide +kernel
theorem d_D_init_396 : decode c_D_init 396 = .ok (.bipush 56, 2) := by decide +kernel
theorem d_D_init_398 : decode c_D_init 398 = .ok (.ldc2_w 119, 3) := by decide +kernel
theorem d_D_init_401 : decode c_D_init 401 = .ok (.lastore, 1) := by decide +kernel
theorem d_D_init_402 : decode c_D_init 402 = .ok (.dup, 1) := by decide +kernel
theorem d_D_init_403 : decode c_D_init 403 = .ok (.bipush 57, 2) := by decide +kernel
theorem d_D_init_405 : decode c_D_init 405 = .ok (.ldc2_w 121, 3) := by decide +kernel
theorem d_D_init_408 : decode c_D_init 408 = .ok (.lastore, 1) := by decide +kernel
theorem d_D_init_409 : decode c_D_init 409 = .ok (.dup, 1) := by decide +kernel
theorem d_D_init_410 : decode c_D_init 410 = .ok (.bipush 58, 2) := by decide +kernel
theorem d_D_init_412 : decode c_D_init 412 = .ok (.ldc2_w 123, 3) := by decide +kernel
theorem d_D_init_415 : decode c_D_init 415 = .ok (.lastore, 1) := by decide +kernel
theorem d_D_init_416 : decode c_D_init 416 = .ok (.dup, 1) := by decide +kernel
theorem d_D_init_417 : decode c_D_init 417 = .ok (.bipush 59, 2) := by decide +kernel
theorem d_D_init_419 : decode c_D_init 419 = .ok (.ldc2_w 125, 3) := by decide +kernel
theorem d_D_init_422 : decode c_D_init 422 = .ok (.lastore, 1) := by decide +kernel
theorem d_D_init_423 : decode c_D_init 423 = .ok (.dup, 1) := by decide +kernel
theorem d_D_init_424 : decode c_D_init 424 = .ok (.bipush 60, 2) := by decide +kernel
theorem d_D_init_426 : decode c_D_init 426 = .ok (.ldc2_w 127, 3) := by decide +kernel
theorem d_D_init_429 : decode c_D_init 429 = .ok (.lastore, 1) := by decide +kernel
theorem d_D_init_430 : decode c_D_init 430 = .ok (.dup, 1) := by decide +kernel
theorem d_D_init_431 : decode c_D_init 431 = .ok (.bipush 61, 2) := by decide +kernel
theorem d_D_init_433 : decode c_D_init 433 = .ok (.ldc2_w 129, 3) := by decide +kernel
theorem d_D_init_436 : decode c_D_init 436 = .ok (.lastore, 1) := by decide +kernel
theorem d_D_init_437 : decode c_D_init 437 = .ok (.dup, 1) := by decide +kernel
theorem d_D_init_438 : decode c_D_init 438 = .ok (.bipush 62, 2) := by decide +kernel
theorem d_D_init_440 : decode c_D_init 440 = .ok (.ldc2_w 131, 3) := by decide +kernel
theorem d_D_init_443 : decode c_D_init 443 = .ok (.lastore, 1) := by decide +kernel
theorem d_D_init_444 : decode c_D_init 444 = .ok (.dup, 1) := by decide +kernel
theorem d_D_init_445 : decode c_D_init 445 = .ok (.bipush 63, 2) := by decide +kernel
theorem d_D_init_447 : decode c_D_init 447 = .ok (.ldc2_w 133, 3) := by decide +kernel
theorem d_D_init_450 : decode c_D_init 450 = .ok (.lastore, 1) := by decide +kernel
theorem d_D_init_451 : decode c_D_init 451 = .ok (.dup, 1) := by decide +kernel
theorem d_D_init_452 : decode c_D_init 452 = .ok (.bipush 64, 2) := by decide +kernel
theorem d_D_init_454 : decode c_D_init 454 = .ok (.ldc2_w 135, 3) := by decide +kernel
theorem d_D_init_457 : decode c_D_init 457 = .ok (.lastore, 1) := by decide +kernel
theorem d_D_init_458 : decode c_D_init 458 = .ok (.dup, 1) := by decide +kernel
theorem d_D_init_459 : decode c_D_init 459 = .ok (.bipush 65, 2) := by decide +kernel
theorem d_D_init_461 : decode c_D_init 461 = .ok (.ldc2_w 137, 3) := by decide +kernel
theorem d_D_init_464 : decode c_D_init 464 = .ok (.lastore, 1) := by decide +kernel
theorem d_D_init_465 : decode c_D_init 465 = .ok (.dup, 1) := by decide +kernel
theorem d_D_init_466 : decode c_D_init 466 = .ok (.bipush 66, 2) := by decide +kernel
theorem d_D_init_468 : decode c_D_init 468 = .ok (.ldc2_w 139, 3) := by decide +kernel
theorem d_D_init_471 : decode c_D_init 471 = .ok (.lastore, 1) := by decide +kernel
theorem d_D_init_472 : decode c_D_init 472 = .ok (.dup, 1) := by decide +kernel
theorem d_D_init_473 : decode c_D_init 473 = .ok (.bipush 67, 2) := by decide +kernel
theorem d_D_init_475 : decode c_D_init 475 = .ok (.ldc2_w 141, 3) := by decide +kernel
theorem d_D_init_478 : decode c_D_init 478 = .ok (.lastore, 1) := by decide +kernel
theorem d_D_init_479 : decode c_D_init 479 = .ok (.dup, 1) := by decide +kernel
theorem d_D_init_480 : decode c_D_init 480 = .ok (.bipush 68, 2) := by decide +kernel
theorem d_D_init_482 : decode c_D_init 482 = .ok (.ldc2_w 143, 3) := by decide +kernel
theorem d_D_init_485 : decode c_D_init 485 = .ok (.lastore, 1) := by decide +kernel
theorem d_D_init_486 : decode c_D_init 486 = .ok (.dup, 1) := by decide +kernel
theorem d_D_init_487 : decode c_D_init 487 = .ok (.bipush 69, 2) := by decide +kernel
theorem d_D_init_489 : decode c_D_init 489 = .ok (.ldc2_w 145, 3) := by decide +kernel
theorem d_D_init_492 : decode c_D_init 492 = .ok (.lastore, 1) := by decide +kernel
theorem d_D_init_493 : decode c_D_init 493 = .ok (.dup, 1) := by decide +kernel
theorem d_D_init_494 : decode c_D_init 494 = .ok (.bipush 70, 2) := by decide +kernel
theorem d_D_init_496 : decode c_D_init 496 = .ok (.ldc2_w 147, 3) := by decide +kernel
theorem d_D_init_499 : decode c_D_init 499 = .ok (.lastore, 1) := by decide +kernel
theorem d_D_init_500 : decode c_D_init 500 = .ok (.dup, 1) := by decide +kernel
theorem d_D_init_501 : decode c_D_init 501 = .ok (.bipush 71, 2) := by decide +kernel
theorem d_D_init_503 : decode c_D_init 503 = .ok (.ldc2_w 149, 3) := by decide +kernel
theorem d_D_init_506 : decode c_D_init 506 = .ok (.lastore, 1) := by decide +kernel
theorem d_D_init_507 : decode c_D_init 507 = .ok (.dup, 1) := by decide +kernel
theorem d_D_init_508 : decode c_D_init 508 = .ok (.bipush 72, 2) := by decide +kernel
theorem d_D_init_510 : decode c_D_init 510 = .ok (.ldc2_w 151, 3) := by decide +kernel
theorem d_D_init_513 : decode c_D_init 513 = .ok (.lastore, 1) := by decide +kernel
theorem d_D_init_514 : decode c_D_init 514 = .ok (.dup, 1) := by decide +kernel
theorem d_D_init_515 : decode c_D_init 515 = .ok (.bipush 73, 2) := by decide +kernel
theorem d_D_init_517 : decode c_D_init 517 = .ok (.ldc2_w 153, 3) := by decide +kernel
theorem d_D_init_520 : decode c_D_init 520 = .ok (.lastore, 1) := by decide +kernel
theorem d_D_init_521 : decode c_D_init 521 = .ok (.dup, 1) := by decide +kernel
theorem d_D_init_522 : decode c_D_init 522 = .ok (.bipush 74, 2) := by decide +kernel
theorem d_D_init_524 : decode c_D_init 524 = .ok (.ldc2_w 155, 3) := by decide +kernel
theorem d_D_init_527 : decode c_D_init 527 = .ok (.lastore, 1) := by decide +kernel
theorem d_D_init_528 : decode c_D_init 528 = .ok (.dup, 1) := by decide +kernel
theorem d_D_init_529 : decode c_D_init 529 = .ok (.bipush 75, 2) := by decide +kernel
theorem d_D_init_531 : decode c_D_init 531 = .ok (.ldc2_w 157, 3) := by decide +kernel
theorem d_D_init_534 : decode c_D_init 534 = .ok (.lastore, 1) := by decide +kernel
theorem d_D_init_535 : decode c_D_init 535 = .ok (.dup, 1) := by decide +kernel
theorem d_D_init_536 : decode c_D_init 536 = .ok (.bipush 76, 2) := by decide +kernel
theorem d_D_init_538 : decode c_D_init 538 = .ok (.ldc2_w 159, 3) := by decide +kernel
theorem d_D_init_541 : decode c_D_init 541 = .ok (.lastore, 1) := by decide +kernel
theorem d_D_init_542 : decode c_D_init 542 = .ok (.dup, 1) := by decide +kernel
theorem d_D_init_543 : decode c_D_init 543 = .ok (.bipush 77, 2) := by decide +kernel
theorem d_D_init_545 : decode c_D_init 545 = .ok (.ldc2_w 161, 3) := by decide +kernel
theorem d_D_init_548 : decode c_D_init 548 = .ok (.lastore, 1) := by decide +kernel
theorem d_D_init_549 : decode c_D_init 549 = .ok (.dup, 1) := by decide +kernel
theorem d_D_init_550 : decode c_D_init 550 = .ok (.bipush 78, 2) := by decide +kernel
theorem d_D_init_552 : decode c_D_init 552 = .ok (.ldc2_w 163, 3) := by decide +kernel
theorem d_D_init_555 : decode c_D_init 555 = .ok (.lastore, 1) := by decide +kernel
theorem d_D_init_556 : decode c_D_init 556 = .ok (.dup, 1) := by decide +kernel
theorem d_D_init_557 : decode c_D_init 557 = .ok (.bipush 79, 2) := by decide +kernel
theorem d_D_init_559 : decode c_D_init 559 = .ok (.ldc2_w 165, 3) := by decide +kernel
theorem d_D_init_562 : decode c_D_init 562 = .ok (.lastore, 1) := by decide +kernel
theorem d_D_init_563 : decode c_D_init 563 = .ok (.dup, 1) := by decide +kernel
theorem d_D_init_564 : decode c_D_init 564 = .ok (.bipush 80, 2) := by decide +kernel
theorem d_D_init_566 : decode c_D_init 566 = .ok (.ldc2_w 167, 3) := by decide +kernel
theorem d_D_init_569 : decode c_D_init 569 = .ok (.lastore, 1) := by decide +kernel
theorem d_D_init_570 : decode c_D_init 570 = .ok (.dup, 1) := by decide +kernel
theorem d_D_init_571 : decode c_D_init 571 = .ok (.bipush 81, 2) := by decide +kernel
theorem d_D_init_573 : decode c_D_init 573 = .ok (.ldc2_w 169, 3) := by decide +kernel
theorem d_D_init_576 : decode c_D_init 576 = .ok (.lastore, 1) := by decide +kernel
theorem d_D_init_577 : decode c_D_init 577 = .ok (.dup, 1) := by decide +kernel
theorem d_D_init_578 : decode c_D_init 578 = .ok (.bipush 82, 2) := by decide +kernel
theorem d_D_init_580 : decode c_D_init 580 = .ok (.ldc2_w 171, 3) := by decide +kernel
theorem d_D_init_583 : decode c_D_init 583 = .ok (.lastore, 1) := by decide +kernel
theorem d_D_init_584 : decode c_D_init 584 = .ok (.dup, 1) := by decide +kernel
theorem d_D_init_585 : decode c_D_init 585 = .ok (.bipush 83, 2) := by decide +kernel
theorem d_D_init_587 : decode c_D_init 587 = .ok (.ldc2_w 173, 3) := by decide +kernel
theorem d_D_init_590 : decode c_D_init 590 = .ok (.lastore, 1) := by decide +kernel
theorem d_D_init_591 : decode c_D_init 591 = .ok (.dup, 1) := by decide +kernel
theorem d_D_init_592 : decode c_D_init 592 = .ok (.bipush 84, 2) := by decide +kernel
theorem d_D_init_594 : decode c_D_init 594 = .ok (.ldc2_w 175, 3) := by decide +kernel
theorem d_D_init_597 : decode c_D_init 597 = .ok (.lastore, 1) := by decide +kernel
theorem d_D_init_598 : decode c_D_init 598 = .ok (.dup, 1) := by decide +kernel
theorem d_D_init_599 : decode c_D_init 599 = .ok (.bipush 85, 2) := by decide +kernel
theorem d_D_init_601 : decode c_D_init 601 = .ok (.ldc2_w 177, 3) := by decide +kernel
theorem d_D_init_604 : decode c_D_init 604 = .ok (.lastore, 1) := by decide +kernel
theorem d_D_init_605 : decode c_D_init 605 = .ok (.dup, 1) := by decide +kernel
theorem d_D_init_606 : decode c_D_init 606 = .ok (.bipush 86, 2) := by decide +kernel
theorem d_D_init_608 : decode c_D_init 608 = .ok (.ldc2_w 179, 3) := by decide +kernel
theorem d_D_init_611 : decode c_D_init 611 = .ok (.lastore, 1) := by decide +kernel
theorem d_D_init_612 : decode c_D_init 612 = .ok (.dup, 1) := by decide +kernel
theorem d_D_init_613 : decode c_D_init 613 = .ok (.bipush 87, 2) := by decide +kernel
theorem d_D_init_615 : decode c_D_init 615 = .ok (.ldc2_w 181, 3) := by decide +kernel
theorem d_D_init_618 : decode c_D_init 618 = .ok (.lastore, 1) := by decide +kernel
theorem d_D_init_619 : decode c_D_init 619 = .ok (.dup, 1) := by decide +kernel
theorem d_D_init_620 : decode c_D_init 620 = .ok (.bipush 88, 2) := by decide +kernel
theorem d_D_init_622 : decode c_D_init 622 = .ok (.ldc2_w 183, 3) := by decide +kernel
theorem d_D_init_625 : decode c_D_init 625 = .ok (.lastore, 1) := by decide +kernel
theorem d_D_init_626 : decode c_D_init 626 = .ok (.dup, 1) := by decide +kernel
theorem d_D_init_627 : decode c_D_init 627 = .ok (.bipush 89, 2) := by decide +kernel
theorem d_D_init_629 : decode c_D_init 629 = .ok (.ldc2_w 185, 3) := by decide +kernel
theorem d_D_init_632 : decode c_D_init 632 = .ok (.lastore, 1) := by decide +kernel
theorem d_D_init_633 : decode c_D_init 633 = .ok (.dup, 1) := by decide +kernel
theorem d_D_init_634 : decode c_D_init 634 = .ok (.bipush 90, 2) := by decide +kernel
theorem d_D_init_636 : decode c_D_init 636 = .ok (.ldc2_w 187, 3) := by decide +kernel
theorem d_D_init_639 : decode c_D_init 639 = .ok (.lastore, 1) := by decide +kernel
theorem d_D_init_640 : decode c_D_init 640 = .ok (.putfield 189, 3) := by decide +kernel
theorem d_D_init_643 : decode c_D_init 643 = .ok (.aload_n 0, 1) := by decide +kernel
theorem d_D_init_644 : decode c_D_init 644 = .ok (.bipush 91, 2) := by decide +kernel
theorem d_D_init_646 : decode c_D_init 646 = .ok (.newarray .int, 2) := by decide +kernel
theorem d_D_init_648 : decode c_D_init 648 = .ok (.dup, 1) := by decide +kernel
theorem d_D_init_649 : decode c_D_init 649 = .ok (.iconst 0, 1) := by decide +kernel
theorem d_D_init_650 : decode c_D_init 650 = .ok (.iconst 0, 1) := by decide +kernel
theorem d_D_init_651 : decode c_D_init 651 = .ok (.iastore, 1) := by decide +kernel
theorem d_D_init_652 : decode c_D_init 652 = .ok (.dup, 1) := by decide +kernel
theorem d_D_init_653 : decode c_D_init 653 = .ok (.iconst 1, 1) := by decide +kernel
theorem d_D_init_654 : decode c_D_init 654 = .ok (.iconst 0, 1) := by decide +kernel
theorem d_D_init_655 : decode c_D_init 655 = .ok (.iastore, 1) := by decide +kernel
theorem d_D_init_656 : decode c_D_init 656 = .ok (.dup, 1) := by decide +kernel
theorem d_D_init_657 : decode c_D_init 657 = .ok (.iconst 2, 1) := by decide +kernel
theorem d_D_init_658 : decode c_D_init 658 = .ok (.iconst 0, 1) := by decide +kernel
theorem d_D_init_659 : decode c_D_init 659 = .ok (.iastore, 1) := by decide +kernel
theorem d_D_init_660 : decode c_D_init 660 = .ok (.dup, 1) := by decide +kernel
theorem d_D_init_661 : decode c_D_init 661 = .ok (.iconst 3, 1) := by decide +kernel
theorem d_D_init_662 : decode c_D_init 662 = .ok (.iconst 0, 1) := by decide +kernel
theorem d_D_init_663 : decode c_D_init 663 = .ok (.iastore, 1) := by decide +kernel
theorem d_D_init_664 : decode c_D_init 664 = .ok (.dup, 1) := by decide +kernel
theorem d_D_init_665 : decode c_D_init 665 = .ok (.iconst 4, 1) := by decide +kernel
theorem d_D_init_666 : decode c_D_init 666 = .ok (.iconst 0, 1) := by decide +kernel
theorem d_D_init_667 : decode c_D_init 667 = .ok (.iastore, 1) := by decide +kernel
theorem d_D_init_668 : decode c_D_init 668 = .ok (.dup, 1) := by decide +kernel
theorem d_D_init_669 : decode c_D_init 669 = .ok (.iconst 5, 1) := by decide +kernel
theorem d_D_init_670 : decode c_D_init 670 = .ok (.iconst 0, 1) := by decide +kernel
theorem d_D_init_671 : decode c_D_init 671 = .ok (.iastore, 1) := by decide +kernel
theorem d_D_init_672 : decode c_D_init 672 = .ok (.dup, 1) := by decide +kernel
theorem d_D_init_673 : decode c_D_init 673 = .ok (.bipush 6, 2) := by decide +kernel
theorem d_D_init_675 : decode c_D_init 675 = .ok (.iconst 0, 1) := by decide +kernel
theorem d_D_init_676 : decode c_D_init 676 = .ok (.iastore, 1) := by decide +kernel
theorem d_D_init_677 : decode c_D_init 677 = .ok (.dup, 1) := by decide +kernel
theorem d_D_init_678 : decode c_D_init 678 = .ok (.bipush 7, 2) := by decide +kernel
theorem d_D_init_680 : decode c_D_init 680 = .ok (.iconst 0, 1) := by decide +kernel
theorem d_D_init_681 : decode c_D_init 681 = .ok (.iastore, 1) := by decide +kernel
theorem d_D_init_682 : decode c_D_init 682 = .ok (.dup, 1) := by decide +kernel
theorem d_D_init_683 : decode c_D_init 683 = .ok (.bipush 8, 2) := by decide +kernel
theorem d_D_init_685 : decode c_D_init 685 = .ok (.iconst 0, 1) := by decide +kernel
theorem d_D_init_686 : decode c_D_init 686 = .ok (.iastore, 1) := by decide +kernel
theorem d_D_init_687 : decode c_D_init 687 = .ok (.dup, 1) := by decide +kernel
theorem d_D_init_688 : decode c_D_init 688 = .ok (.bipush 9, 2) := by decide +kernel
theorem d_D_init_690 : decode c_D_init 690 = .ok (.iconst 0, 1) := by decide +kernel
theorem d_D_init_691 : decode c_D_init 691 = .ok (.iastore, 1) := by decide +kernel
theorem d_D_init_692 : decode c_D_init 692 = .ok (.dup, 1) := by decide +kernel
theorem d_D_init_693 : decode c_D_init 693 = .ok (.bipush 10, 2) := by decide +kernel
theorem d_D_init_695 : decode c_D_init 695 = .ok (.iconst 0, 1) := by decide +kernel
theorem d_D_init_696 : decode c_D_init 696 = .ok (.iastore, 1) := by decide +kernel
theorem d_D_init_697 : decode c_D_init 697 = .ok (.dup, 1) := by decide +kernel
theorem d_D_init_698 : decode c_D_init 698 = .ok (.bipush 11, 2) := by decide +kernel
theorem d_D_init_700 : decode c_D_init 700 = .ok (.iconst 0, 1) := by decide +kernel
theorem d_D_init_701 : decode c_D_init 701 = .ok (.iastore, 1) := by decide +kernel
theorem d_D_init_702 : decode c_D_init 702 = .ok (.dup, 1) := by decide +kernel
theorem d_D_init_703 : decode c_D_init 703 = .ok (.bipush 12, 2) := by decide +kernel
theorem d_D_init_705 : decode c_D_init 705 = .ok (.iconst 0, 1) := by decide +kernel
theorem d_D_init_706 : decode c_D_init 706 = .ok (.iastore, 1) := by decide +kernel
theorem d_D_init_707 : decode c_D_init 707 = .ok (.dup, 1) := by decide +kernel
theorem d_D_init_708 : decode c_D_init 708 = .ok (.bipush 13, 2) := by decide +kernel
theorem d_D_init_710 : decode c_D_init 710 = .ok (.iconst 0, 1) := by decide +kernel
theorem d_D_init_711 : decode c_D_init 711 = .ok (.iastore, 1) := by decide +kernel
theorem d_D_init_712 : decode c_D_init 712 = .ok (.dup, 1) := by decide +kernel
theorem d_D_init_713 : decode c_D_init 713 = .ok (.bipush 14, 2) := by decide +kernel
theorem d_D_init_715 : decode c_D_init 715 = .ok (.iconst 0, 1) := by decide +kernel
theorem d_D_init_716 : decode c_D_init 716 = .ok (.iastore, 1) := by decide +kernel
theorem d_D_init_717 : decode c_D_init 717 = .ok (.dup, 1) := by decide +kernel
theorem d_D_init_718 : decode c_D_init 718 = .ok (.bipush 15, 2) := by decide +kernel
theorem d_D_init_720 : decode c_D_init 720 = .ok (.iconst 0, 1) := by decide +kernel
theorem d_D_init_721 : decode c_D_init 721 = .ok (.iastore, 1) := by decide +kernel
theorem d_D_init_722 : decode c_D_init 722 = .ok (.dup, 1) := by decide +kernel
theorem d_D_init_723 : decode c_D_init 723 = .ok (.bipush 16, 2) := by decide +kernel
theorem d_D_init_725 : decode c_D_init 725 = .ok (.iconst 0, 1) := by decide +kernel
theorem d_D_init_726 : decode c_D_init 726 = .ok (.iastore, 1) := by decide +kernel
theorem d_D_init_727 : decode c_D_init 727 = .ok (.dup, 1) := by decide +kernel
theorem d_D_init_728 : decode c_D_init 728 = .ok (.bipush 17, 2) := by decide +kernel
theorem d_D_init_730 : decode c_D_init 730 = .ok (.iconst 0, 1) := by decide +kernel
theorem d_D_init_731 : decode c_D_init 731 = .ok (.iastore, 1) := by decide +kernel
theorem d_D_init_732 : decode c_D_init 732 = .ok (.dup, 1) := by decide +kernel
theorem d_D_init_733 : decode c_D_init 733 = .ok (.bipush 18, 2) := by decide +kernel
theorem d_D_init_735 : decode c_D_init 735 = .ok (.iconst 0, 1) := by decide +kernel
theorem d_D_init_736 : decode c_D_init 736 = .ok (.iastore, 1) := by decide +kernel
theorem d_D_init_737 : decode c_D_init 737 = .ok (.dup, 1) := by decide +kernel
theorem d_D_init_738 : decode c_D_init 738 = .ok (.bipush 19, 2) := by decide +kernel
theorem d_D_init_740 : decode c_D_init 740 = .ok (.iconst 0, 1) := by decide +kernel
theorem d_D_init_741 : decode c_D_init 741 = .ok (.iastore, 1) := by decide +kernel
theorem d_D_init_742 : decode c_D_init 742 = .ok (.dup, 1) := by decide +kernel
theorem d_D_init_743 : decode c_D_init 743 = .ok (.bipush 20, 2) := by decide +kernel
theorem d_D_init_745 : decode c_D_init 745 = .ok (.iconst 0, 1) := by decide +kernel
theorem d_D_init_746 : decode c_D_init 746 = .ok (.iastore, 1) := by decide +kernel
theorem d_D_init_747 : decode c_D_init 747 = .ok (.dup, 1) := by decide +kernel
theorem d_D_init_748 : decode c_D_init 748 = .ok (.bipush 21, 2) := by decide +kernel
theorem d_D_init_750 : decode c_D_init 750 = .ok (.iconst 0, 1) := by decide +kernel
theorem d_D_init_751 : decode c_D_init 751 = .ok (.iastore, 1) := by decide +kernel
theorem d_D_init_752 : decode c_D_init 752 = .ok (.dup, 1) := by decide +kernel
theorem d_D_init_753 : decode c_D_init 753 = .ok (.bipush 22, 2) := by decide +kernel
theorem d_D_init_755 : decode c_D_init 755 = .ok (.iconst 0, 1) := by decide +kernel
theorem d_D_init_756 : decode c_D_init 756 = .ok (.iastore, 1) := by decide +kernel
theorem d_D_init_757 : decode c_D_init 757 = .ok (.dup, 1) := by decide +kernel
theorem d_D_init_758 : decode c_D_init 758 = .ok (.bipush 23, 2) := by decide +kernel
theorem d_D_init_760 : decode c_D_init 760 = .ok (.iconst 0, 1) := by decide +kernel
theorem d_D_init_761 : decode c_D_init 761 = .ok (.iastore, 1) := by decide +kernel
theorem d_D_init_762 : decode c_D_init 762 = .ok (.dup, 1) := by decide +kernel
theorem d_D_init_763 : decode c_D_init 763 = .ok (.bipush 24, 2) := by decide +kernel
theorem d_D_init_765 : decode c_D_init 765 = .ok (.iconst 0, 1) := by decide +kernel
theorem d_D_init_766 : decode c_D_init 766 = .ok (.iastore, 1) := by decide +kernel
theorem d_D_init_767 : decode c_D_init 767 = .ok (.dup, 1) := by decide +kernel
theorem d_D_init_768 : decode c_D_init 768 = .ok (.bipush 25, 2) := by decide +kernel
theorem d_D_init_770 : decode c_D_init 770 = .ok (.iconst 0, 1) := by decide +kernel
theorem d_D_init_771 : decode c_D_init 771 = .ok (.iastore, 1) := by decide +kernel
theorem d_D_init_772 : decode c_D_init 772 = .ok (.dup, 1) := by decide +kernel
theorem d_D_init_773 : decode c_D_init 773 = .ok (.bipush 26, 2) := by decide +kernel
theorem d_D_init_775 : decode c_D_init 775 = .ok (.iconst 0, 1) := by decide +kernel
theorem d_D_init_776 : decode c_D_init 776 = .ok (.iastore, 1) := by decide +kernel
theorem d_D_init_777 : decode c_D_init 777 = .ok (.dup, 1) := by decide +kernel
theorem d_D_init_778 : decode c_D_init 778 = .ok (.bipush 27, 2) := by decide +kernel
theorem d_D_init_780 : decode c_D_init 780 = .ok (.iconst 0, 1) := by decide +kernel
theorem d_D_init_781 : decode c_D_init 781 = .ok (.iastore, 1) := by decide +kernel
theorem d_D_init_782 : decode c_D_init 782 = .ok (.dup, 1) := by decide +kernel
theorem d_D_init_783 : decode c_D_init 783 = .ok (.bipush 28, 2) := by decide +kernel
theorem d_D_init_785 : decode c_D_init 785 = .ok (.iconst 0, 1) := by decide +kernel
theorem d_D_init_786 : decode c_D_init 786 = .ok (.iastore, 1) := by decide +kernel
theorem d_D_init_787 : decode c_D_init 787 = .ok (.dup, 1) := by decide +kernel
theorem d_D_init_788 : decode c_D_init 788 = .ok (.bipush 29, 2) := by decide +kernel
theorem d_D_init_790 : decode c_D_init 790 = .ok (.iconst 0, 1) := by decide +kernel
theorem d_D_init_791 : decode c_D_init 791 = .ok (.iastore, 1) := by decide +kernel
theorem d_D_init_792 : decode c_D_init 792 = .ok (.dup, 1) := by decide +kernel
theorem d_D_init_793 : decode c_D_init 793 = .ok (.bipush 30, 2) := by decide +kernel
theorem d_D_init_795 : decode c_D_init 795 = .ok (.iconst 0, 1) := by decide +kernel
theorem d_D_init_796 : decode c_D_init 796 = .ok (.iastore, 1) := by decide +kernel
theorem d_D_init_797 : decode c_D_init 797 = .ok (.dup, 1) := by decide +kernel
theorem d_D_init_798 : decode c_D_init 798 = .ok (.bipush 31, 2) := by decide +kernel
theorem d_D_init_800 : decode c_D_init 800 = .ok (.iconst 0, 1) := by decide +kernel
theorem d_D_init_801 : decode c_D_init 801 = .ok (.iastore, 1) := by decide +kernel
theorem d_D_init_802 : decode c_D_init 802 = .ok (.dup, 1) := by decide +kernel
theorem d_D_init_803 : decode c_D_init 803 = .ok (.bipush 32, 2) := by decide +kernel
theorem d_D_init_805 : decode c_D_init 805 = .ok (.iconst 0, 1) := by decide +kernel
theorem d_D_init_806 : decode c_D_init 806 = .ok (.iastore, 1) := by decide +kernel
theorem d_D_init_807 : decode c_D_init 807 = .ok (.dup, 1) := by decide +kernel
theorem d_D_init_808 : decode c_D_init 808 = .ok (.bipush 33, 2) := by decide +kernel
theorem d_D_init_810 : decode c_D_init 810 = .ok (.iconst 0, 1) := by decide +kernel
theorem d_D_init_811 : decode c_D_init 811 = .ok (.iastore, 1) := by decide +kernel
theorem d_D_init_812 : decode c_D_init 812 = .ok (.dup, 1) := by decide +kernel
theorem d_D_init_813 : decode c_D_init 813 = .ok (.bipush 34, 2) := by decide +kernel
theorem d_D_init_815 : decode c_D_init 815 = .ok (.iconst 0, 1) := by decide +kernel
theorem d_D_init_816 : decode c_D_init 816 = .ok (.iastore, 1) := by decide +kernel
theorem d_D_init_817 : decode c_D_init 817 = .ok (.dup, 1) := by decide +kernel
theorem d_D_init_818 : decode c_D_init 818 = .ok (.bipush 35, 2) := by decide +kernel
theorem d_D_init_820 : decode c_D_init 820 = .ok (.iconst 1, 1) := by decide +kernel
theorem d_D_init_821 : decode c_D_init 821 = .ok (.iastore, 1) := by decide +kernel
theorem d_D_init_822 : decode c_D_init 822 = .ok (.dup, 1) := by decide +kernel
theorem d_D_init_823 : decode c_D_init 823 = .ok (.bipush 36, 2) := by decide +kernel
theorem d_D_init_825 : decode c_D_init 825 = .ok (.iconst 2, 1) := by decide +kernel
theorem d_D_init_826 : decode c_D_init 826 = .ok (.iastore, 1) := by decide +kernel
theorem d_D_init_827 : decode c_D_init 827 = .ok (.dup, 1) := by decide +kernel
theorem d_D_init_828 : decode c_D_init 828 = .ok (.bipush 37, 2) := by decide +kernel
theorem d_D_init_830 : decode c_D_init 830 = .ok (.iconst 2, 1) := by decide +kernel
theorem d_D_init_831 : decode c_D_init 831 = .ok (.iastore, 1) := by decide +kernel
theorem d_D_init_832 : decode c_D_init 832 = .ok (.dup, 1) := by decide +kernel
theorem d_D_init_833 : decode c_D_init 833 = .ok (.bipush 38, 2) := by decide +kernel
theorem d_D_init_835 : decode c_D_init 835 = .ok (.iconst 2, 1) := by decide +kernel
theorem d_D_init_836 : decode c_D_init 836 = .ok (.iastore, 1) := by decide +kernel
theorem d_D_init_837 : decode c_D_init 837 = .ok (.dup, 1) := by decide +kernel
theorem d_D_init_838 : decode c_D_init 838 = .ok (.bipush 39, 2) := by decide +kernel
theorem d_D_init_840 : decode c_D_init 840 = .ok (.iconst 2, 1) := by decide +kernel
theorem d_D_init_841 : decode c_D_init 841 = .ok (.iastore, 1) := by decide +kernel
theorem d_D_init_842 : decode c_D_init 842 = .ok (.dup, 1) := by decide +kernel
theorem d_D_init_843 : decode c_D_init 843 = .ok (.bipush 40, 2) := by decide +kernel
theorem d_D_init_845 : decode c_D_init 845 = .ok (.iconst 3, 1) := by decide +kernel
theorem d_D_init_846 : decode c_D_init 846 = .ok (.iastore, 1) := by decide +kernel
theorem d_D_init_847 : decode c_D_init 847 = .ok (.dup, 1) := by decide +kernel
theorem d_D_init_848 : decode c_D_init 848 = .ok (.bipush 41, 2) := by decide +kernel
theorem d_D_init_850 : decode c_D_init 850 = .ok (.iconst 3, 1) := by decide +kernel
theorem d_D_init_851 : decode c_D_init 851 = .ok (.iastore, 1) := by decide +kernel
theorem d_D_init_852 : decode c_D_init 852 = .ok (.dup, 1) := by decide +kernel
theorem d_D_init_853 : decode c_D_init 853 = .ok (.bipush 42, 2) := by decide +kernel
theorem d_D_init_855 : decode c_D_init 855 = .ok (.iconst 3, 1) := by decide +kernel
theorem d_D_init_856 : decode c_D_init 856 = .ok (.iastore, 1) := by decide +kernel
theorem d_D_init_857 : decode c_D_init 857 = .ok (.dup, 1) := by decide +kernel
theorem d_D_init_858 : decode c_D_init 858 = .ok (.bipush 43, 2) := by decide +kernel
theorem d_D_init_860 : decode c_D_init 860 = .ok (.iconst 3, 1) := by decide +kernel
theorem d_D_init_861 : decode c_D_init 861 = .ok (.iastore, 1) := by decide +kernel
theorem d_D_init_862 : decode c_D_init 862 = .ok (.dup, 1) := by decide +kernel
theorem d_D_init_863 : decode c_D_init 863 = .ok (.bipush 44, 2) := by decide +kernel
theorem d_D_init_865 : decode c_D_init 865 = .ok (.iconst 3, 1) := by decide +kernel
theorem d_D_init_866 : decode c_D_init 866 = .ok (.iastore, 1) := by decide +kernel
theorem d_D_init_867 : decode c_D_init 867 = .ok (.dup, 1) := by decide +kernel
theorem d_D_init_868 : decode c_D_init 868 = .ok (.bipush 45, 2) := by decide +kernel
theorem d_D_init_870 : decode c_D_init 870 = .ok (.iconst 4, 1) := by decide +kernel
theorem d_D_init_871 : decode c_D_init 871 = .ok (.iastore, 1) := by decide +kernel
theorem d_D_init_872 : decode c_D_init 872 = .ok (.dup, 1) := by decide +kernel
theorem d_D_init_873 : decode c_D_init 873 = .ok (.bipush 46, 2) := by decide +kernel
theorem d_D_init_875 : decode c_D_init 875 = .ok (.iconst 5, 1) := by decide +kernel
theorem d_D_init_876 : decode c_D_init 876 = .ok (.iastore, 1) := by decide +kernel
theorem d_D_init_877 : decode c_D_init 877 = .ok (.dup, 1) := by decide +kernel
theorem d_D_init_878 : decode c_D_init 878 = .ok (.bipush 47, 2) := by decide +kernel
theorem d_D_init_880 : decode c_D_init 880 = .ok (.iconst 3, 1) := by decide +kernel
theorem d_D_init_881 : decode c_D_init 881 = .ok (.iastore, 1) := by decide +kernel
theorem d_D_init_882 : decode c_D_init 882 = .ok (.dup, 1) := by decide +kernel
theorem d_D_init_883 : decode c_D_init 883 = .ok (.bipush 48, 2) := by decide +kernel
theorem d_D_init_885 : decode c_D_init 885 = .ok (.iconst 5, 1) := by decide +kernel
theorem d_D_init_886 : decode c_D_init 886 = .ok (.iastore, 1) := by decide +kernel
theorem d_D_init_887 : decode c_D_init 887 = .ok (.dup, 1) := by decide +kernel
theorem d_D_init_888 : decode c_D_init 888 = .ok (.bipush 49, 2) := by decide +kernel
theorem d_D_init_890 : decode c_D_init 890 = .ok (.iconst 3, 1) := by decide +kernel
theorem d_D_init_891 : decode c_D_init 891 = .ok (.iastore, 1) := by decide +kernel
theorem d_D_init_892 : decode c_D_init 892 = .ok (.dup, 1) := by decide +kernel
theorem d_D_init_893 : decode c_D_init 893 = .ok (.bipush 50, 2) := by decide +kernel
theorem d_D_init_895 : decode c_D_init 895 = .ok (.iconst 5, 1) := by decide +kernel
theorem d_D_init_896 : decode c_D_init 896 = .ok (.iastore, 1) := by decide +kernel
theorem d_D_init_897 : decode c_D_init 897 = .ok (.dup, 1) := by decide +kernel
theorem d_D_init_898 : decode c_D_init 898 = .ok (.bipush 51, 2) := by decide +kernel
theorem d_D_init_900 : decode c_D_init 900 = .ok (.iconst 3, 1) := by decide +kernel
theorem d_D_init_901 : decode c_D_init 901 = .ok (.iastore, 1) := by decide +kernel
theorem d_D_init_902 : decode c_D_init 902 = .ok (.dup, 1) := by decide +kernel
theorem d_D_init_903 : decode c_D_init 903 = .ok (.bipush 52, 2) := by decide +kernel
theorem d_D_init_905 : decode c_D_init 905 = .ok (.iconst 5, 1) := by decide +kernel
theorem d_D_init_906 : decode c_D_init 906 = .ok (.iastore, 1) := by decide +kernel
theorem d_D_init_907 : decode c_D_init 907 = .ok (.dup, 1) := by decide +kernel
theorem d_D_init_908 : decode c_D_init 908 = .ok (.bipush 53, 2) := by decide +kernel
theorem d_D_init_910 : decode c_D_init 910 = .ok (.iconst 3, 1) := by decide +kernel
theorem d_D_init_911 : decode c_D_init 911 = .ok (.iastore, 1) := by decide +kernel
theorem d_D_init_912 : decode c_D_init 912 = .ok (.dup, 1) := by decide +kernel
theorem d_D_init_913 : decode c_D_init 913 = .ok (.bipush 54, 2) := by decide +kernel
theorem d_D_init_915 : decode c_D_init 915 = .ok (.iconst 5, 1) := by decide +kernel
theorem d_D_init_916 : decode c_D_init 916 = .ok (.iastore, 1) := by decide +kernel
theorem d_D_init_917 : decode c_D_init 917 = .ok (.dup, 1) := by decide +kernel
theorem d_D_init_918 : decode c_D_init 918 = .ok (.bipush 55, 2) := by decide +kernel
theorem d_D_init_920 : decode c_D_init 920 = .ok (.iconst 3, 1) := by decide +kernel
theorem d_D_init_921 : decode c_D_init 921 = .ok (.iastore, 1) := by decide +kernel
theorem d_D_init_922 : decode c_D_init 922 = .ok (.dup, 1) := by decide +kernel
theorem d_D_init_923 : decode c_D_init 923 = .ok (.bipush 56, 2) := by decide +kernel
theorem d_D_init_925 : decode c_D_init 925 = .ok (.iconst 5, 1) := by decide +kernel
theorem d_D_init_926 : decode c_D_init 926 = .ok (.iastore, 1) := by decide +kernel
theorem d_D_init_927 : decode c_D_init 927 = .ok (.dup, 1) := by decide +kernel
theorem d_D_init_928 : decode c_D_init 928 = .ok (.bipush 57, 2) := by decide +kernel
theorem d_D_init_930 : decode c_D_init 930 = .ok (.iconst 3, 1) := by decide +kernel
theorem d_D_init_931 : decode c_D_init 931 = .ok (.iastore, 1) := by decide +kernel
theorem d_D_init_932 : decode c_D_init 932 = .ok (.dup, 1) := by decide +kernel
theorem d_D_init_933 : decode c_D_init 933 = .ok (.bipush 58, 2) := by decide +kernel
theorem d_D_init_935 : decode c_D_init 935 = .ok (.iconst 5, 1) := by decide +kernel
theorem d_D_init_936 : decode c_D_init 936 = .ok (.iastore, 1) := by decide +kernel
theorem d_D_init_937 : decode c_D_init 937 = .ok (.dup, 1) := by decide +kernel
theorem d_D_init_938 : decode c_D_init 938 = .ok (.bipush 59, 2) := by decide +kernel
theorem d_D_init_940 : decode c_D_init 940 = .ok (.iconst 3, 1) := by decide +kernel
theorem d_D_init_941 : decode c_D_init 941 = .ok (.iastore, 1) := by decide +kernel
theorem d_D_init_942 : decode c_D_init 942 = .ok (.dup, 1) := by decide +kernel
theorem d_D_init_943 : decode c_D_init 943 = .ok (.bipush 60, 2) := by decide +kernel
theorem d_D_init_945 : decode c_D_init 945 = .ok (.iconst 5, 1) := by decide +kernel
theorem d_D_init_946 : decode c_D_init 946 = .ok (.iastore, 1) := by decide +kernel
theorem d_D_init_947 : decode c_D_init 947 = .ok (.dup, 1) := by decide +kernel
theorem d_D_init_948 : decode c_D_init 948 = .ok (.bipush 61, 2) := by decide +kernel
theorem d_D_init_950 : decode c_D_init 950 = .ok (.iconst 3, 1) := by decide +kernel
theorem d_D_init_951 : decode c_D_init 951 = .ok (.iastore, 1) := by decide +kernel
theorem d_D_init_952 : decode c_D_init 952 = .ok (.dup, 1) := by decide +kernel
theorem d_D_init_953 : decode c_D_init 953 = .ok (.bipush 62, 2) := by decide +kernel
theorem d_D_init_955 : decode c_D_init 955 = .ok (.iconst 5, 1) := by decide +kernel
theorem d_D_init_956 : decode c_D_init 956 = .ok (.iastore, 1) := by decide +kernel
theorem d_D_init_957 : decode c_D_init 957 = .ok (.dup, 1) := by decide +kernel
theorem d_D_init_958 : decode c_D_init 958 = .ok (.bipush 63, 2) := by decide +kernel
theorem d_D_init_960 : decode c_D_init 960 = .ok (.iconst 3, 1) := by decide +kernel
theorem d_D_init_961 : decode c_D_init 961 = .ok (.iastore, 1) := by decide +kernel
theorem d_D_init_962 : decode c_D_init 962 = .ok (.dup, 1) := by decide +kernel
theorem d_D_init_963 : decode c_D_init 963 = .ok (.bipush 64, 2) := by decide +kernel
theorem d_D_init_965 : decode c_D_init 965 = .ok (.iconst 5, 1) := by decide +kernel
theorem d_D_init_966 : decode c_D_init 966 = .ok (.iastore, 1) := by decide +kernel
theorem d_D_init_967 : decode c_D_init 967 = .ok (.dup, 1) := by decide +kernel
theorem d_D_init_968 : decode c_D_init 968 = .ok (.bipush 65, 2) := by decide +kernel
theorem d_D_init_970 : decode c_D_init 970 = .ok (.iconst 3, 1) := by decide +kernel
theorem d_D_init_971 : decode c_D_init 971 = .ok (.iastore, 1) := by decide +kernel
theorem d_D_init_972 : decode c_D_init 972 = .ok (.dup, 1) := by decide +kernel
theorem d_D_init_973 : decode c_D_init 973 = .ok (.bipush 66, 2) := by decide +kernel
theorem d_D_init_975 : decode c_D_init 975 = .ok (.iconst 5, 1) := by decide +kernel
theorem d_D_init_976 : decode c_D_init 976 = .ok (.iastore, 1) := by decide +kernel
theorem d_D_init_977 : decode c_D_init 977 = .ok (.dup, 1) := by decide +kernel
theorem d_D_init_978 : decode c_D_init 978 = .ok (.bipush 67, 2) := by decide +kernel
theorem d_D_init_980 : decode c_D_init 980 = .ok (.iconst 3, 1) := by decide +kernel
theorem d_D_init_981 : decode c_D_init 981 = .ok (.iastore, 1) := by decide +kernel
theorem d_D_init_982 : decode c_D_init 982 = .ok (.dup, 1) := by decide +kernel
theorem d_D_init_983 : decode c_D_init 983 = .ok (.bipush 68, 2) := by decide +kernel
theorem d_D_init_985 : decode c_D_init 985 = .ok (.iconst 5, 1) := by decide +kernel
theorem d_D_init_986 : decode c_D_init 986 = .ok (.iastore, 1) := by decide +kernel
theorem d_D_init_987 : decode c_D_init 987 = .ok (.dup, 1) := by decide +kernel
theorem d_D_init_988 : decode c_D_init 988 = .ok (.bipush 69, 2) := by decide +kernel
theorem d_D_init_990 : decode c_D_init 990 = .ok (.iconst 3, 1) := by decide +kernel
theorem d_D_init_991 : decode c_D_init 991 = .ok (.iastore, 1) := by decide +kernel
theorem d_D_init_992 : decode c_D_init 992 = .ok (.dup, 1) := by decide +kernel
theorem d_D_init_993 : decode c_D_init 993 = .ok (.bipush 70, 2) := by decide +kernel
theorem d_D_init_995 : decode c_D_init 995 = .ok (.iconst 5, 1) := by decide +kernel
theorem d_D_init_996 : decode c_D_init 996 = .ok (.iastore, 1) := by decide +kernel
theorem d_D_init_997 : decode c_D_init 997 = .ok (.dup, 1) := by decide +kernel
theorem d_D_init_998 : decode c_D_init 998 = .ok (.bipush 71, 2) := by decide +kernel
theorem d_D_init_1000 : decode c_D_init 1000 = .ok (.iconst 3, 1) := by decide +kernel
theorem d_D_init_1001 : decode c_D_init 1001 = .ok (.iastore, 1) := by decide +kernel
theorem d_D_init_1002 : decode c_D_init 1002 = .ok (.dup, 1) := by decide +kernel
theorem d_D_init_1003 : decode c_D_init 1003 = .ok (.bipush 72, 2) := by decide +kernel
theorem d_D_init_1005 : decode c_D_init 1005 = .ok (.iconst 5, 1) := by decide +kernel
theorem d_D_init_1006 : decode c_D_init 1006 = .ok (.iastore, 1) := by decide +kernel
theorem d_D_init_1007 : decode c_D_init 1007 = .ok (.dup, 1) := by decide +kernel
theorem d_D_init_1008 : decode c_D_init 1008 = .ok (.bipush 73, 2) := by decide +kernel
theorem d_D_init_1010 : decode c_D_init 1010 = .ok (.iconst 3, 1) := by decide +kernel
theorem d_D_init_1011 : decode c_D_init 1011 = .ok (.iastore, 1) := by decide +kernel
theorem d_D_init_1012 : decode c_D_init 1012 = .ok (.dup, 1) := by decide +kernel
theorem d_D_init_1013 : decode c_D_init 1013 = .ok (.bipush 74, 2) := by decide +kernel
theorem d_D_init_1015 : decode c_D_init 1015 = .ok (.iconst 5, 1) := by decide +kernel
theorem d_D_init_1016 : decode c_D_init 1016 = .ok (.iastore, 1) := by decide +kernel
theorem d_D_init_1017 : decode c_D_init 1017 = .ok (.dup, 1) := by decide +kernel
theorem d_D_init_1018 : decode c_D_init 1018 = .ok (.bipush 75, 2) := by decide +kernel
theorem d_D_init_1020 : decode c_D_init 1020 = .ok (.iconst 3, 1) := by decide +kernel
theorem d_D_init_1021 : decode c_D_init 1021 = .ok (.iastore, 1) := by decide +kernel
theorem d_D_init_1022 : decode c_D_init 1022 = .ok (.dup, 1) := by decide +kernel
theorem d_D_init_1023 : decode c_D_init 1023 = .ok (.bipush 76, 2) := by decide +kernel
theorem d_D_init_1025 : decode c_D_init 1025 = .ok (.iconst 5, 1) := by decide +kernel
theorem d_D_init_1026 : decode c_D_init 1026 = .ok (.iastore, 1) := by decide +kernel
theorem d_D_init_1027 : decode c_D_init 1027 = .ok (.dup, 1) := by decide +kernel
theorem d_D_init_1028 : decode c_D_init 1028 = .ok (.bipush 77, 2) := by decide +kernel
theorem d_D_init_1030 : decode c_D_init 1030 = .ok (.iconst 3, 1) := by decide +kernel
theorem d_D_init_1031 : decode c_D_init 1031 = .ok (.iastore, 1) := by decide +kernel
theorem d_D_init_1032 : decode c_D_init 1032 = .ok (.dup, 1) := by decide +kernel
theorem d_D_init_1033 : decode c_D_init 1033 = .ok (.bipush 78, 2) := by decide +kernel
theorem d_D_init_1035 : decode c_D_init 1035 = .ok (.iconst 0, 1) := by decide +kernel
theorem d_D_init_1036 : decode c_D_init 1036 = .ok (.iastore, 1) := by decide +kernel
theorem d_D_init_1037 : decode c_D_init 1037 = .ok (.dup, 1) := by decide +kernel
theorem d_D_init_1038 : decode c_D_init 1038 = .ok (.bipush 79, 2) := by decide +kernel
theorem d_D_init_1040 : decode c_D_init 1040 = .ok (.iconst 0, 1) := by decide +kernel
theorem d_D_init_1041 : decode c_D_init 1041 = .ok (.iastore, 1) := by decide +kernel
theorem d_D_init_1042 : decode c_D_init 1042 = .ok (.dup, 1) := by decide +kernel
theorem d_D_init_1043 : decode c_D_init 1043 = .ok (.bipush 80, 2) := by decide +kernel
theorem d_D_init_1045 : decode c_D_init 1045 = .ok (.iconst 0, 1) := by decide +kernel
theorem d_D_init_1046 : decode c_D_init 1046 = .ok (.iastore, 1) := by decide +kernel
theorem d_D_init_1047 : decode c_D_init 1047 = .ok (.dup, 1) := by decide +kernel
theorem d_D_init_1048 : decode c_D_init 1048 = .ok (.bipush 81, 2) := by decide +kernel
theorem d_D_init_1050 : decode c_D_init 1050 = .ok (.iconst 0, 1) := by decide +kernel
theorem d_D_init_1051 : decode c_D_init 1051 = .ok (.iastore, 1) := by decide +kernel
theorem d_D_init_1052 : decode c_D_init 1052 = .ok (.dup, 1) := by decide +kernel
theorem d_D_init_1053 : decode c_D_init 1053 = .ok (.bipush 82, 2) := by decide +kernel
theorem d_D_init_1055 : decode c_D_init 1055 = .ok (.iconst 0, 1) := by decide +kernel
theorem d_D_init_1056 : decode c_D_init 1056 = .ok (.iastore, 1) := by decide +kernel
theorem d_D_init_1057 : decode c_D_init 1057 = .ok (.dup, 1) := by decide +kernel
theorem d_D_init_1058 : decode c_D_init 1058 = .ok (.bipush 83, 2) := by decide +kernel
theorem d_D_init_1060 : decode c_D_init 1060 = .ok (.iconst 0, 1) := by decide +kernel
theorem d_D_init_1061 : decode c_D_init 1061 = .ok (.iastore, 1) := by decide +kernel
theorem d_D_init_1062 : decode c_D_init 1062 = .ok (.dup, 1) := by decide +kernel
theorem d_D_init_1063 : decode c_D_init 1063 = .ok (.bipush 84, 2) := by decide +kernel
theorem d_D_init_1065 : decode c_D_init 1065 = .ok (.iconst 0, 1) := by decide +kernel
theorem d_D_init_1066 : decode c_D_init 1066 = .ok (.iastore, 1) := by decide +kernel
theorem d_D_init_1067 : decode c_D_init 1067 = .ok (.dup, 1) := by decide +kernel
theorem d_D_init_1068 : decode c_D_init 1068 = .ok (.bipush 85, 2) := by decide +kernel
theorem d_D_init_1070 : decode c_D_init 1070 = .ok (.iconst 0, 1) := by decide +kernel
theorem d_D_init_1071 : decode c_D_init 1071 = .ok (.iastore, 1) := by decide +kernel
theorem d_D_init_1072 : decode c_D_init 1072 = .ok (.dup, 1) := by decide +kernel
theorem d_D_init_1073 : decode c_D_init 1073 = .ok (.bipush 86, 2) := by decide +kernel
theorem d_D_init_1075 : decode c_D_init 1075 = .ok (.bipush 6, 2) := by decide +kernel
theorem d_D_init_1077 : decode c_D_init 1077 = .ok (.iastore, 1) := by decide +kernel
theorem d_D_init_1078 : decode c_D_init 1078 = .ok (.dup, 1) := by decide +kernel
theorem d_D_init_1079 : decode c_D_init 1079 = .ok (.bipush 87, 2) := by decide +kernel
theorem d_D_init_1081 : decode c_D_init 1081 = .ok (.bipush 6, 2) := by decide +kernel
theorem d_D_init_1083 : decode c_D_init 1083 = .ok (.iastore, 1) := by decide +kernel
theorem d_D_init_1084 : decode c_D_init 1084 = .ok (.dup, 1) := by decide +kernel
theorem d_D_init_1085 : decode c_D_init 1085 = .ok (.bipush 88, 2) := by decide +kernel
theorem d_D_init_1087 : decode c_D_init 1087 = .ok (.bipush 6, 2) := by decide +kernel
theorem d_D_init_1089 : decode c_D_init 1089 = .ok (.iastore, 1) := by decide +kernel
theorem d_D_init_1090 : decode c_D_init 1090 = .ok (.dup, 1) := by decide +kernel
theorem d_D_init_1091 : decode c_D_init 1091 = .ok (.bipush 89, 2) := by decide +kernel
theorem d_D_init_1093 : decode c_D_init 1093 = .ok (.bipush 6, 2) := by decide +kernel
theorem d_D_init_1095 : decode c_D_init 1095 = .ok (.iastore, 1) := by decide +kernel
theorem d_D_init_1096 : decode c_D_init 1096 = .ok (.dup, 1) := by decide +kernel
theorem d_D_init_1097 : decode c_D_init 1097 = .ok (.bipush 90, 2) := by decide +kernel
theorem d_D_init_1099 : decode c_D_init 1099 = .ok (.bipush 7, 2) := by decide +kernel
theorem d_D_init_1101 : decode c_D_init 1101 = .ok (.iastore, 1) := by decide +kernel
theorem d_D_init_1102 : decode c_D_init 1102 = .ok (.putfield 195, 3) := by decide +kernel
theorem d_D_init_1105 : decode c_D_init 1105 = .ok (.aload_n 0, 1) := by decide +kernel
theorem d_D_init_1106 : decode c_D_init 1106 = .ok (.bipush 91, 2) := by decide +kernel
theorem d_D_init_1108 : decode c_D_init 1108 = .ok (.newarray .int, 2) := by decide +kernel
theorem d_D_init_1110 : decode c_D_init 1110 = .ok (.dup, 1) := by decide +kernel
theorem d_D_init_1111 : decode c_D_init 1111 = .ok (.iconst 0, 1) := by decide +kernel
theorem d_D_init_1112 : decode c_D_init 1112 = .ok (.sipush 128, 3) := by decide +kernel
theorem d_D_init_1115 : decode c_D_init 1115 = .ok (.iastore, 1) := by decide +kernel
theorem d_D_init_1116 : decode c_D_init 1116 = .ok (.dup, 1) := by decide +kernel
theorem d_D_init_1117 : decode c_D_init 1117 = .ok (.iconst 1, 1) := by decide +kernel
theorem d_D_init_1118 : decode c_D_init 1118 = .ok (.sipush 144, 3) := by decide +kernel
theorem d_D_init_1121 : decode c_D_init 1121 = .ok (.iastore, 1) := by decide +kernel
theorem d_D_init_1122 : decode c_D_init 1122 = .ok (.dup, 1) := by decide +kernel
theorem d_D_init_1123 : decode c_D_init 1123 = .ok (.iconst 2, 1) := by decide +kernel
theorem d_D_init_1124 : decode c_D_init 1124 = .ok (.sipush 129, 3) := by decide +kernel
theorem d_D_init_1127 : decode c_D_init 1127 = .ok (.iastore, 1) := by decide +kernel
theorem d_D_init_1128 : decode c_D_init 1128 = .ok (.dup, 1) := by decide +kernel
theorem d_D_init_1129 : decode c_D_init 1129 = .ok (.iconst 3, 1) := by decide +kernel
theorem d_D_init_1130 : decode c_D_init 1130 = .ok (.sipush 145, 3) := by decide +kernel
theorem d_D_init_1133 : decode c_D_init 1133 = .ok (.iastore, 1) := by decide +kernel
theorem d_D_init_1134 : decode c_D_init 1134 = .ok (.dup, 1) := by decide +kernel
theorem d_D_init_1135 : decode c_D_init 1135 = .ok (.iconst 4, 1) := by decide +kernel
theorem d_D_init_1136 : decode c_D_init 1136 = .ok (.sipush 130, 3) := by decide +kernel
theorem d_D_init_1139 : decode c_D_init 1139 = .ok (.iastore, 1) := by decide +kernel
theorem d_D_init_1140 : decode c_D_init 1140 = .ok (.dup, 1) := by decide +kernel
theorem d_D_init_1141 : decode c_D_init 1141 = .ok (.iconst 5, 1) := by decide +kernel
theorem d_D_init_1142 : decode c_D_init 1142 = .ok (.sipush 146, 3) := by decide +kernel
theorem d_D_init_1145 : decode c_D_init 1145 = .ok (.iastore, 1) := by decide +kernel
theorem d_D_init_1146 : decode c_D_init 1146 = .ok (.dup, 1) := by decide +kernel
theorem d_D_init_1147 : decode c_D_init 1147 = .ok (.bipush 6, 2) := by decide +kernel
theorem d_D_init_1149 : decode c_D_init 1149 = .ok (.sipush 131, 3) := by decide +kernel
theorem d_D_init_1152 : decode c_D_init 1152 = .ok (.iastore, 1) := by decide +kernel
theorem d_D_init_1153 : decode c_D_init 1153 = .ok (.dup, 1) := by decide +kernel
theorem d_D_init_1154 : decode c_D_init 1154 = .ok (.bipush 7, 2) := by decide +kernel
theorem d_D_init_1156 : decode c_D_init 1156 = .ok (.sipush 147, 3) := by decide +kernel
theorem d_D_init_1159 : decode c_D_init 1159 = .ok (.iastore, 1) := by decide +kernel
theorem d_D_init_1160 : decode c_D_init 1160 = .ok (.dup, 1) := by decide +kernel
theorem d_D_init_1161 : decode c_D_init 1161 = .ok (.bipush 8, 2) := by decide +kernel
theorem d_D_init_1163 : decode c_D_init 1163 = .ok (.sipush 132, 3) := by decide +kernel
theorem d_D_init_1166 : decode c_D_init 1166 = .ok (.iastore, 1) := by decide +kernel
theorem d_D_init_1167 : decode c_D_init 1167 = .ok (.dup, 1) := by decide +kernel
theorem d_D_init_1168 : decode c_D_init 1168 = .ok (.bipush 9, 2) := by decide +kernel
theorem d_D_init_1170 : decode c_D_init 1170 = .ok (.sipush 148, 3) := by decide +kernel
theorem d_D_init_1173 : decode c_D_init 1173 = .ok (.iastore, 1) := by decide +kernel
theorem d_D_init_1174 : decode c_D_init 1174 = .ok (.dup, 1) := by decide +kernel
theorem d_D_init_1175 : decode c_D_init 1175 = .ok (.bipush 10, 2) := by decide +kernel
theorem d_D_init_1177 : decode c_D_init 1177 = .ok (.sipush 133, 3) := by decide +kernel
theorem d_D_init_1180 : decode c_D_init 1180 = .ok (.iastore, 1) := by decide +kernel
theorem d_D_init_1181 : decode c_D_init 1181 = .ok (.dup, 1) := by decide +kernel
theorem d_D_init_1182 : decode c_D_init 1182 = .ok (.bipush 11, 2) := by decide +kernel
theorem d_D_init_1184 : decode c_D_init 1184 = .ok (.sipush 149, 3) := by decide +kernel
theorem d_D_init_1187 : decode c_D_init 1187 = .ok (.iastore, 1) := by decide +kernel
theorem d_D_init_1188 : decode c_D_init 1188 = .ok (.dup, 1) := by decide +kernel
theorem d_D_init_1189 : decode c_D_init 1189 = .ok (.bipush 12, 2) := by decide +kernel
theorem d_D_init_1191 : decode c_D_init 1191 = .ok (.sipush 134, 3) := by decide +kernel
theorem d_D_init_1194 : decode c_D_init 1194 = .ok (.iastore, 1) := by decide +kernel
theorem d_D_init_1195 : decode c_D_init 1195 = .ok (.dup, 1) := by decide +kernel
theorem d_D_init_1196 : decode c_D_init 1196 = .ok (.bipush 13, 2) := by decide +kernel
theorem d_D_init_1198 : decode c_D_init 1198 = .ok (.sipush 150, 3) := by decide +kernel
theorem d_D_init_1201 : decode c_D_init 1201 = .ok (.iastore, 1) := by decide +kernel
theorem d_D_init_1202 : decode c_D_init 1202 = .ok (.dup, 1) := by decide +kernel
theorem d_D_init_1203 : decode c_D_init 1203 = .ok (.bipush 14, 2) := by decide +kernel
theorem d_D_init_1205 : decode c_D_init 1205 = .ok (.sipush 135, 3) := by decide +kernel
theorem d_D_init_1208 : decode c_D_init 1208 = .ok (.iastore, 1) := by decide +kernel
theorem d_D_init_1209 : decode c_D_init 1209 = .ok (.dup, 1) := by decide +kernel
theorem d_D_init_1210 : decode c_D_init 1210 = .ok (.bipush 15, 2) := by decide +kernel
theorem d_D_init_1212 : decode c_D_init 1212 = .ok (.sipush 151, 3) := by decide +kernel
theorem d_D_init_1215 : decode c_D_init 1215 = .ok (.iastore, 1) := by decide +kernel
theorem d_D_init_1216 : decode c_D_init 1216 = .ok (.dup, 1) := by decide +kernel
theorem d_D_init_1217 : decode c_D_init 1217 = .ok (.bipush 16, 2) := by decide +kernel
theorem d_D_init_1219 : decode c_D_init 1219 = .ok (.sipush 136, 3) := by decide +kernel
theorem d_D_init_1222 : decode c_D_init 1222 = .ok (.iastore, 1) := by decide +kernel
theorem d_D_init_1223 : decode c_D_init 1223 = .ok (.dup, 1) := by decide +kernel
theorem d_D_init_1224 : decode c_D_init 1224 = .ok (.bipush 17, 2) := by decide +kernel
theorem d_D_init_1226 : decode c_D_init 1226 = .ok (.sipush 152, 3) := by decide +kernel
theorem d_D_init_1229 : decode c_D_init 1229 = .ok (.iastore, 1) := by decide +kernel
theorem d_D_init_1230 : decode c_D_init 1230 = .ok (.dup, 1) := by decide +kernel
theorem d_D_init_1231 : decode c_D_init 1231 = .ok (.bipush 18, 2) := by decide +kernel
theorem d_D_init_1233 : decode c_D_init 1233 = .ok (.sipush 140, 3) := by decide +kernel
theorem d_D_init_1236 : decode c_D_init 1236 = .ok (.iastore, 1) := by decide +kernel
theorem d_D_init_1237 : decode c_D_init 1237 = .ok (.dup, 1) := by decide +kernel
theorem d_D_init_1238 : decode c_D_init 1238 = .ok (.bipush 19, 2) := by decide +kernel
theorem d_D_init_1240 : decode c_D_init 1240 = .ok (.sipush 156, 3) := by decide +kernel
theorem d_D_init_1243 : decode c_D_init 1243 = .ok (.iastore, 1) := by decide +kernel
theorem d_D_init_1244 : decode c_D_init 1244 = .ok (.dup, 1) := by decide +kernel
theorem d_D_init_1245 : decode c_D_init 1245 = .ok (.bipush 20, 2) := by decide +kernel
theorem d_D_init_1247 : decode c_D_init 1247 = .ok (.sipush 138, 3) := by decide +kernel
theorem d_D_init_1250 : decode c_D_init 1250 = .ok (.iastore, 1) := by decide +kernel
theorem d_D_init_1251 : decode c_D_init 1251 = .ok (.dup, 1) := by decide +kernel
theorem d_D_init_1252 : decode c_D_init 1252 = .ok (.bipush 21, 2) := by decide +kernel
theorem d_D_init_1254 : decode c_D_init 1254 = .ok (.sipush 154, 3) := by decide +kernel
theorem d_D_init_1257 : decode c_D_init 1257 = .ok (.iastore, 1) := by decide +kernel
theorem d_D_init_1258 : decode c_D_init 1258 = .ok (.dup, 1) := by decide +kernel
theorem d_D_init_1259 : decode c_D_init 1259 = .ok (.bipush 22, 2) := by decide +kernel
theorem d_D_init_1261 : decode c_D_init 1261 = .ok (.sipush 139, 3) := by decide +kernel
theorem d_D_init_1264 : decode c_D_init 1264 = .ok (.iastore, 1) := by decide +kernel
theorem d_D_init_1265 : decode c_D_init 1265 = .ok (.dup, 1) := by decide +kernel
theorem d_D_init_1266 : decode c_D_init 1266 = .ok (.bipush 23, 2) := by decide +kernel
theorem d_D_init_1268 : decode c_D_init 1268 = .ok (.sipush 155, 3) := by decide +kernel
theorem d_D_init_1271 : decode c_D_init 1271 = .ok (.iastore, 1) := by decide +kernel
theorem d_D_init_1272 : decode c_D_init 1272 = .ok (.dup, 1) := by decide +kernel
theorem d_D_init_1273 : decode c_D_init 1273 = .ok (.bipush 24, 2) := by decide +kernel
theorem d_D_init_1275 : decode c_D_init 1275 = .ok (.sipush 142, 3) := by decide +kernel
theorem d_D_init_1278 : decode c_D_init 1278 = .ok (.iastore, 1) := by decide +kernel
theorem d_D_init_1279 : decode c_D_init 1279 = .ok (.dup, 1) := by decide +kernel
theorem d_D_init_1280 : decode c_D_init 1280 = .ok (.bipush 25, 2) := by decide +kernel
theorem d_D_init_1282 : decode c_D_init 1282 = .ok (.sipush 158, 3) := by decide +kernel
theorem d_D_init_1285 : decode c_D_init 1285 = .ok (.iastore, 1) := by decide +kernel
theorem d_D_init_1286 : decode c_D_init 1286 = .ok (.dup, 1) := by decide +kernel
theorem d_D_init_1287 : decode c_D_init 1287 = .ok (.bipush 26, 2) := by decide +kernel
theorem d_D_init_1289 : decode c_D_init 1289 = .ok (.sipush 143, 3) := by decide +kernel
theorem d_D_init_1292 : decode c_D_init 1292 = .ok (.iastore, 1) := by decide +kernel
theorem d_D_init_1293 : decode c_D_init 1293 = .ok (.dup, 1) := by decide +kernel
theorem d_D_init_1294 : decode c_D_init 1294 = .ok (.bipush 27, 2) := by decide +kernel
theorem d_D_init_1296 : decode c_D_init 1296 = .ok (.sipush 159, 3) := by decide +kernel
theorem d_D_init_1299 : decode c_D_init 1299 = .ok (.iastore, 1) := by decide +kernel
theorem d_D_init_1300 : decode c_D_init 1300 = .ok (.dup, 1) := by decide +kernel
theorem d_D_init_1301 : decode c_D_init 1301 = .ok (.bipush 28, 2) := by decide +kernel
theorem d_D_init_1303 : decode c_D_init 1303 = .ok (.sipush 164, 3) := by decide +kernel
theorem d_D_init_1306 : decode c_D_init 1306 = .ok (.iastore, 1) := by decide +kernel
theorem d_D_init_1307 : decode c_D_init 1307 = .ok (.dup, 1) := by decide +kernel
theorem d_D_init_1308 : decode c_D_init 1308 = .ok (.bipush 29, 2) := by decide +kernel
theorem d_D_init_1310 : decode c_D_init 1310 = .ok (.sipush 165, 3) := by decide +kernel
theorem d_D_init_1313 : decode c_D_init 1313 = .ok (.iastore, 1) := by decide +kernel
theorem d_D_init_1314 : decode c_D_init 1314 = .ok (.dup, 1) := by decide +kernel
theorem d_D_init_1315 : decode c_D_init 1315 = .ok (.bipush 30, 2) := by decide +kernel
theorem d_D_init_1317 : decode c_D_init 1317 = .ok (.sipush 166, 3) := by decide +kernel
theorem d_D_init_1320 : decode c_D_init 1320 = .ok (.iastore, 1) := by decide +kernel
theorem d_D_init_1321 : decode c_D_init 1321 = .ok (.dup, 1) := by decide +kernel
theorem d_D_init_1322 : decode c_D_init 1322 = .ok (.bipush 31, 2) := by decide +kernel
theorem d_D_init_1324 : decode c_D_init 1324 = .ok (.sipush 167, 3) := by decide +kernel
theorem d_D_init_1327 : decode c_D_init 1327 = .ok (.iastore, 1) := by decide +kernel
theorem d_D_init_1328 : decode c_D_init 1328 = .ok (.dup, 1) := by decide +kernel
theorem d_D_init_1329 : decode c_D_init 1329 = .ok (.bipush 32, 2) := by decide +kernel
theorem d_D_init_1331 : decode c_D_init 1331 = .ok (.sipush 184, 3) := by decide +kernel
theorem d_D_init_1334 : decode c_D_init 1334 = .ok (.iastore, 1) := by decide +kernel
theorem d_D_init_1335 : decode c_D_init 1335 = .ok (.dup, 1) := by decide +kernel
theorem d_D_init_1336 : decode c_D_init 1336 = .ok (.bipush 33, 2) := by decide +kernel
theorem d_D_init_1338 : decode c_D_init 1338 = .ok (.sipush 188, 3) := by decide +kernel
theorem d_D_init_1341 : decode c_D_init 1341 = .ok (.iastore, 1) := by decide +kernel
theorem d_D_init_1342 : decode c_D_init 1342 = .ok (.dup, 1) := by decide +kernel
theorem d_D_init_1343 : decode c_D_init 1343 = .ok (.bipush 34, 2) := by decide +kernel
theorem d_D_init_1345 : decode c_D_init 1345 = .ok (.sipush 189, 3) := by decide +kernel
theorem d_D_init_1348 : decode c_D_init 1348 = .ok (.iastore, 1) := by decide +kernel
theorem d_D_init_1349 : decode c_D_init 1349 = .ok (.dup, 1) := by decide +kernel
theorem d_D_init_1350 : decode c_D_init 1350 = .ok (.bipush 35, 2) := by decide +kernel
theorem d_D_init_1352 : decode c_D_init 1352 = .ok (.iconst 0, 1) := by decide +kernel
theorem d_D_init_1353 : decode c_D_init 1353 = .ok (.iastore, 1) := by decide +kernel
theorem d_D_init_1354 : decode c_D_init 1354 = .ok (.dup, 1) := by decide +kernel
theorem d_D_init_1355 : decode c_D_init 1355 = .ok (.bipush 36, 2) := by decide +kernel
theorem d_D_init_1357 : decode c_D_init 1357 = .ok (.bipush 40, 2) := by decide +kernel
theorem d_D_init_1359 : decode c_D_init 1359 = .ok (.iastore, 1) := by decide +kernel
theorem d_D_init_1360 : decode c_D_init 1360 = .ok (.dup, 1) := by decide +kernel
theorem d_D_init_1361 : decode c_D_init 1361 = .ok (.bipush 37, 2) := by decide +kernel
theorem d_D_init_1363 : decode c_D_init 1363 = .ok (.bipush 41, 2) := by decide +kernel
theorem d_D_init_1365 : decode c_D_init 1365 = .ok (.iastore, 1) := by decide +kernel
theorem d_D_init_1366 : decode c_D_init 1366 = .ok (.dup, 1) := by decide +kernel
theorem d_D_init_1367 : decode c_D_init 1367 = .ok (.bipush 38, 2) := by decide +kernel
theorem d_D_init_1369 : decode c_D_init 1369 = .ok (.bipush 42, 2) := by decide +kernel
theorem d_D_init_1371 : decode c_D_init 1371 = .ok (.iastore, 1) := by decide +kernel
theorem d_D_init_1372 : decode c_D_init 1372 = .ok (.dup, 1) := by decide +kernel
theorem d_D_init_1373 : decode c_D_init 1373 = .ok (.bipush 39, 2) := by decide +kernel
theorem d_D_init_1375 : decode c_D_init 1375 = .ok (.bipush 43, 2) := by decide +kernel
theorem d_D_init_1377 : decode c_D_init 1377 = .ok (.iastore, 1) := by decide +kernel
theorem d_D_init_1378 : decode c_D_init 1378 = .ok (.dup, 1) := by decide +kernel
theorem d_D_init_1379 : decode c_D_init 1379 = .ok (.bipush 40, 2) := by decide +kernel
theorem d_D_init_1381 : decode c_D_init 1381 = .ok (.sipush 1536, 3) := by decide +kernel
theorem d_D_init_1384 : decode c_D_init 1384 = .ok (.iastore, 1) := by decide +kernel
theorem d_D_init_1385 : decode c_D_init 1385 = .ok (.dup, 1) := by decide +kernel
theorem d_D_init_1386 : decode c_D_init 1386 = .ok (.bipush 41, 2) := by decide +kernel
theorem d_D_init_1388 : decode c_D_init 1388 = .ok (.sipush 1568, 3) := by decide +kernel
theorem d_D_init_1391 : decode c_D_init 1391 = .ok (.iastore, 1) := by decide +kernel
theorem d_D_init_1392 : decode c_D_init 1392 = .ok (.dup, 1) := by decide +kernel
theorem d_D_init_1393 : decode c_D_init 1393 = .ok (.bipush 42, 2) := by decide +kernel
theorem d_D_init_1395 : decode c_D_init 1395 = .ok (.sipush 1600, 3) := by decide +kernel
theorem d_D_init_1398 : decode c_D_init 1398 = .ok (.iastore, 1) := by decide +kernel
theorem d_D_init_1399 : decode c_D_init 1399 = .ok (.dup, 1) := by decide +kernel
theorem d_D_init_1400 : decode c_D_init 1400 = .ok (.bipush 43, 2) := by decide +kernel
theorem d_D_init_1402 : decode c_D_init 1402 = .ok (.sipush 1632, 3) := by decide +kernel
theorem d_D_init_1405 : decode c_D_init 1405 = .ok (.iastore, 1) := by decide +kernel
theorem d_D_init_1406 : decode c_D_init 1406 = .ok (.dup, 1) := by decide +kernel
theorem d_D_init_1407 : decode c_D_init 1407 = .ok (.bipush 44, 2) := by decide +kernel
theorem d_D_init_1409 : decode c_D_init 1409 = .ok (.sipush 1824, 3) := by decide +kernel
theorem d_D_init_1412 : decode c_D_init 1412 = .ok (.iastore, 1) := by decide +kernel
theorem d_D_init_1413 : decode c_D_init 1413 = .ok (.dup, 1) := by decide +kernel
theorem d_D_init_1414 : decode c_D_init 1414 = .ok (.bipush 45, 2) := by decide +kernel
theorem d_D_init_1416 : decode c_D_init 1416 = .ok (.iconst 0, 1) := by decide +kernel
theorem d_D_init_1417 : decode c_D_init 1417 = .ok (.iastore, 1) := by decide +kernel
theorem d_D_init_1418 : decode c_D_init 1418 = .ok (.dup, 1) := by decide +kernel
theorem d_D_init_1419 : decode c_D_init 1419 = .ok (.bipush 46, 2) := by decide +kernel
theorem d_D_init_1421 : decode c_D_init 1421 = .ok (.iconst 0, 1) := by decide +kernel
theorem d_D_init_1422 : decode c_D_init 1422 = .ok (.iastore, 1) := by decide +kernel
theorem d_D_init_1423 : decode c_D_init 1423 = .ok (.dup, 1) := by decide +kernel
theorem d_D_init_1424 : decode c_D_init 1424 = .ok (.bipush 47, 2) := by decide +kernel
theorem d_D_init_1426 : decode c_D_init 1426 = .ok (.sipush 1856, 3) := by decide +kernel
theorem d_D_init_1429 : decode c_D_init 1429 = .ok (.iastore, 1) := by decide +kernel
theorem d_D_init_1430 : decode c_D_init 1430 = .ok (.dup, 1) := by decide +kernel
theorem d_D_init_1431 : decode c_D_init 1431 = .ok (.bipush 48, 2) := by decide +kernel
theorem d_D_init_1433 : decode c_D_init 1433 = .ok (.iconst 1, 1) := by decide +kernel
theorem d_D_init_1434 : decode c_D_init 1434 = .ok (.iastore, 1) := by decide +kernel
theorem d_D_init_1435 : decode c_D_init 1435 = .ok (.dup, 1) := by decide +kernel
theorem d_D_init_1436 : decode c_D_init 1436 = .ok (.bipush 49, 2) := by decide +kernel
theorem d_D_init_1438 : decode c_D_init 1438 = .ok (.sipush 1857, 3) := by decide +kernel
theorem d_D_init_1441 : decode c_D_init 1441 = .ok (.iastore, 1) := by decide +kernel
theorem d_D_init_1442 : decode c_D_init 1442 = .ok (.dup, 1) := by decide +kernel
theorem d_D_init_1443 : decode c_D_init 1443 = .ok (.bipush 50, 2) := by decide +kernel
theorem d_D_init_1445 : decode c_D_init 1445 = .ok (.iconst 2, 1) := by decide +kernel
theorem d_D_init_1446 : decode c_D_init 1446 = .ok (.iastore, 1) := by decide +kernel
theorem d_D_init_1447 : decode c_D_init 1447 = .ok (.dup, 1) := by decide +kernel
theorem d_D_init_1448 : decode c_D_init 1448 = .ok (.bipush 51, 2) := by decide +kernel
theorem d_D_init_1450 : decode c_D_init 1450 = .ok (.sipush 1858, 3) := by decide +kernel
theorem d_D_init_1453 : decode c_D_init 1453 = .ok (.iastore, 1) := by decide +kernel
theorem d_D_init_1454 : decode c_D_init 1454 = .ok (.dup, 1) := by decide +kernel
theorem d_D_init_1455 : decode c_D_init 1455 = .ok (.bipush 52, 2) := by decide +kernel
theorem d_D_init_1457 : decode c_D_init 1457 = .ok (.iconst 3, 1) := by decide +kernel
theorem d_D_init_1458 : decode c_D_init 1458 = .ok (.iastore, 1) := by decide +kernel
theorem d_D_init_1459 : decode c_D_init 1459 = .ok (.dup, 1) := by decide +kernel
theorem d_D_init_1460 : decode c_D_init 1460 = .ok (.bipush 53, 2) := by decide +kernel
theorem d_D_init_1462 : decode c_D_init 1462 = .ok (.sipush 1859, 3) := by decide +kernel
theorem d_D_init_1465 : decode c_D_init 1465 = .ok (.iastore, 1) := by decide +kernel
theorem d_D_init_1466 : decode c_D_init 1466 = .ok (.dup, 1) := by decide +kernel
theorem d_D_init_1467 : decode c_D_init 1467 = .ok (.bipush 54, 2) := by decide +kernel
theorem d_D_init_1469 : decode c_D_init 1469 = .ok (.iconst 4, 1) := by decide +kernel
theorem d_D_init_1470 : decode c_D_init 1470 = .ok (.iastore, 1) := by decide +kernel
theorem d_D_init_1471 : decode c_D_init 1471 = .ok (.dup, 1) := by decide +kernel
theorem d_D_init_1472 : decode c_D_init 1472 = .ok (.bipush 55, 2) := by decide +kernel
theorem d_D_init_1474 : decode c_D_init 1474 = .ok (.sipush 1860, 3) := by decide +kernel
theorem d_D_init_1477 : decode c_D_init 1477 = .ok (.iastore, 1) := by decide +kernel
theorem d_D_init_1478 : decode c_D_init 1478 = .ok (.dup, 1) := by decide +kernel
theorem d_D_init_1479 : decode c_D_init 1479 = .ok (.bipush 56, 2) := by decide +kernel
theorem d_D_init_1481 : decode c_D_init 1481 = .ok (.iconst 5, 1) := by decide +kernel
theorem d_D_init_1482 : decode c_D_init 1482 = .ok (.iastore, 1) := by decide +kernel
theorem d_D_init_1483 : decode c_D_init 1483 = .ok (.dup, 1) := by decide +kernel
theorem d_D_init_1484 : decode c_D_init 1484 = .ok (.bipush 57, 2) := by decide +kernel
theorem d_D_init_1486 : decode c_D_init 1486 = .ok (.sipush 1861, 3) := by decide +kernel
theorem d_D_init_1489 : decode c_D_init 1489 = .ok (.iastore, 1) := by decide +kernel
theorem d_D_init_1490 : decode c_D_init 1490 = .ok (.dup, 1) := by decide +kernel
theorem d_D_init_1491 : decode c_D_init 1491 = .ok (.bipush 58, 2) := by decide +kernel
theorem d_D_init_1493 : decode c_D_init 1493 = .ok (.bipush 6, 2) := by decide +kernel
theorem d_D_init_1495 : decode c_D_init 1495 = .ok (.iastore, 1) := by decide +kernel
theorem d_D_init_1496 : decode c_D_init 1496 = .ok (.dup, 1) := by decide +kernel
theorem d_D_init_1497 : decode c_D_init 1497 = .ok (.bipush 59, 2) := by decide +kernel
theorem d_D_init_1499 : decode c_D_init 1499 = .ok (.sipush 1862, 3) := by decide +kernel
theorem d_D_init_1502 : decode c_D_init 1502 = .ok (.iastore, 1) := by decide +kernel
theorem d_D_init_1503 : decode c_D_init 1503 = .ok (.dup, 1) := by decide +kernel
theorem d_D_init_1504 : decode c_D_init 1504 = .ok (.bipush 60, 2) := by decide +kernel
theorem d_D_init_1506 : decode c_D_init 1506 = .ok (.bipush 7, 2) := by decide +kernel
theorem d_D_init_1508 : decode c_D_init 1508 = .ok (.iastore, 1) := by decide +kernel
theorem d_D_init_1509 : decode c_D_init 1509 = .ok (.dup, 1) := by decide +kernel
theorem d_D_init_1510 : decode c_D_init 1510 = .ok (.bipush 61, 2) := by decide +kernel
theorem d_D_init_1512 : decode c_D_init 1512 = .ok (.sipush 1863, 3) := by decide +kernel
theorem d_D_init_1515 : decode c_D_init 1515 = .ok (.iastore, 1) := by decide +kernel
theorem d_D_init_1516 : decode c_D_init 1516 = .ok (.dup, 1) := by decide +kernel
theorem d_D_init_1517 : decode c_D_init 1517 = .ok (.bipush 62, 2) := by decide +kernel
theorem d_D_init_1519 : decode c_D_init 1519 = .ok (.bipush 8, 2) := by decide +kernel
theorem d_D_init_1521 : decode c_D_init 1521 = .ok (.iastore, 1) := by decide +kernel
theorem d_D_init_1522 : decode c_D_init 1522 = .ok (.dup, 1) := by decide +kernel
theorem d_D_init_1523 : decode c_D_init 1523 = .ok (.bipush 63, 2) := by decide +kernel
theorem d_D_init_1525 : decode c_D_init 1525 = .ok (.sipush 1864, 3) := by decide +kernel
theorem d_D_init_1528 : decode c_D_init 1528 = .ok (.iastore, 1) := by decide +kernel
theorem d_D_init_1529 : decode c_D_init 1529 = .ok (.dup, 1) := by decide +kernel
theorem d_D_init_1530 : decode c_D_init 1530 = .ok (.bipush 64, 2) := by decide +kernel
theorem d_D_init_1532 : decode c_D_init 1532 = .ok (.bipush 9, 2) := by decide +kernel
theorem d_D_init_1534 : decode c_D_init 1534 = .ok (.iastore, 1) := by decide +kernel
theorem d_D_init_1535 : decode c_D_init 1535 = .ok (.dup, 1) := by decide +kernel
theorem d_D_init_1536 : decode c_D_init 1536 = .ok (.bipush 65, 2) := by decide +kernel
theorem d_D_init_1538 : decode c_D_init 1538 = .ok (.sipush 1865, 3) := by decide +kernel
theorem d_D_init_1541 : decode c_D_init 1541 = .ok (.iastore, 1) := by decide +kernel
theorem d_D_init_1542 : decode c_D_init 1542 = .ok (.dup, 1) := by decide +kernel
theorem d_D_init_1543 : decode c_D_init 1543 = .ok (.bipush 66, 2) := by decide +kernel
theorem d_D_init_1545 : decode c_D_init 1545 = .ok (.bipush 10, 2) := by decide +kernel
theorem d_D_init_1547 : decode c_D_init 1547 = .ok (.iastore, 1) := by decide +kernel
theorem d_D_init_1548 : decode c_D_init 1548 = .ok (.dup, 1) := by decide +kernel
theorem d_D_init_1549 : decode c_D_init 1549 = .ok (.bipush 67, 2) := by decide +kernel
theorem d_D_init_1551 : decode c_D_init 1551 = .ok (.sipush 1866, 3) := by decide +kernel
theorem d_D_init_1554 : decode c_D_init 1554 = .ok (.iastore, 1) := by decide +kernel
theorem d_D_init_1555 : decode c_D_init 1555 = .ok (.dup, 1) := by decide +kernel
theorem d_D_init_1556 : decode c_D_init 1556 = .ok (.bipush 68, 2) := by decide +kernel
theorem d_D_init_1558 : decode c_D_init 1558 = .ok (.bipush 11, 2) := by decide +kernel
theorem d_D_init_1560 : decode c_D_init 1560 = .ok (.iastore, 1) := by decide +kernel
theorem d_D_init_1561 : decode c_D_init 1561 = .ok (.dup, 1) := by decide +kernel
theorem d_D_init_1562 : decode c_D_init 1562 = .ok (.bipush 69, 2) := by decide +kernel
theorem d_D_init_1564 : decode c_D_init 1564 = .ok (.sipush 1867, 3) := by decide +kernel
theorem d_D_init_1567 : decode c_D_init 1567 = .ok (.iastore, 1) := by decide +kernel
theorem d_D_init_1568 : decode c_D_init 1568 = .ok (.dup, 1) := by decide +kernel
theorem d_D_init_1569 : decode c_D_init 1569 = .ok (.bipush 70, 2) := by decide +kernel
theorem d_D_init_1571 : decode c_D_init 1571 = .ok (.bipush 12, 2) := by decide +kernel
theorem d_D_init_1573 : decode c_D_init 1573 = .ok (.iastore, 1) := by decide +kernel
theorem d_D_init_1574 : decode c_D_init 1574 = .ok (.dup, 1) := by decide +kernel
theorem d_D_init_1575 : decode c_D_init 1575 = .ok (.bipush 71, 2) := by decide +kernel
theorem d_D_init_1577 : decode c_D_init 1577 = .ok (.sipush 1868, 3) := by decide +kernel
theorem d_D_init_1580 : decode c_D_init 1580 = .ok (.iastore, 1) := by decide +kernel
theorem d_D_init_1581 : decode c_D_init 1581 = .ok (.dup, 1) := by decide +kernel
theorem d_D_init_1582 : decode c_D_init 1582 = .ok (.bipush 72, 2) := by decide +kernel
theorem d_D_init_1584 : decode c_D_init 1584 = .ok (.bipush 13, 2) := by decide +kernel
theorem d_D_init_1586 : decode c_D_init 1586 = .ok (.iastore, 1) := by decide +kernel
theorem d_D_init_1587 : decode c_D_init 1587 = .ok (.dup, 1) := by decide +kernel
theorem d_D_init_1588 : decode c_D_init 1588 = .ok (.bipush 73, 2) := by decide +kernel
theorem d_D_init_1590 : decode c_D_init 1590 = .ok (.sipush 1869, 3) := by decide +kernel
theorem d_D_init_1593 : decode c_D_init 1593 = .ok (.iastore, 1) := by decide +kernel
theorem d_D_init_1594 : decode c_D_init 1594 = .ok (.dup, 1) := by decide +kernel
theorem d_D_init_1595 : decode c_D_init 1595 = .ok (.bipush 74, 2) := by decide +kernel
theorem d_D_init_1597 : decode c_D_init 1597 = .ok (.bipush 14, 2) := by decide +kernel
theorem d_D_init_1599 : decode c_D_init 1599 = .ok (.iastore, 1) := by decide +kernel
theorem d_D_init_1600 : decode c_D_init 1600 = .ok (.dup, 1) := by decide +kernel
theorem d_D_init_1601 : decode c_D_init 1601 = .ok (.bipush 75, 2) := by decide +kernel
theorem d_D_init_1603 : decode c_D_init 1603 = .ok (.sipush 1870, 3) := by decide +kernel
theorem d_D_init_1606 : decode c_D_init 1606 = .ok (.iastore, 1) := by decide +kernel
theorem d_D_init_1607 : decode c_D_init 1607 = .ok (.dup, 1) := by decide +kernel
theorem d_D_init_1608 : decode c_D_init 1608 = .ok (.bipush 76, 2) := by decide +kernel
theorem d_D_init_1610 : decode c_D_init 1610 = .ok (.bipush 15, 2) := by decide +kernel
theorem d_D_init_1612 : decode c_D_init 1612 = .ok (.iastore, 1) := by decide +kernel
theorem d_D_init_1613 : decode c_D_init 1613 = .ok (.dup, 1) := by decide +kernel
theorem d_D_init_1614 : decode c_D_init 1614 = .ok (.bipush 77, 2) := by decide +kernel
theorem d_D_init_1616 : decode c_D_init 1616 = .ok (.sipush 1871, 3) := by decide +kernel
theorem d_D_init_1619 : decode c_D_init 1619 = .ok (.iastore, 1) := by decide +kernel
theorem d_D_init_1620 : decode c_D_init 1620 = .ok (.dup, 1) := by decide +kernel
theorem d_D_init_1621 : decode c_D_init 1621 = .ok (.bipush 78, 2) := by decide +kernel
theorem d_D_init_1623 : decode c_D_init 1623 = .ok (.sipush 192, 3) := by decide +kernel
theorem d_D_init_1626 : decode c_D_init 1626 = .ok (.iastore, 1) := by decide +kernel
theorem d_D_init_1627 : decode c_D_init 1627 = .ok (.dup, 1) := by decide +kernel
theorem d_D_init_1628 : decode c_D_init 1628 = .ok (.bipush 79, 2) := by decide +kernel
theorem d_D_init_1630 : decode c_D_init 1630 = .ok (.sipush 193, 3) := by decide +kernel
theorem d_D_init_1633 : decode c_D_init 1633 = .ok (.iastore, 1) := by decide +kernel
theorem d_D_init_1634 : decode c_D_init 1634 = .ok (.dup, 1) := by decide +kernel
theorem d_D_init_1635 : decode c_D_init 1635 = .ok (.bipush 80, 2) := by decide +kernel
theorem d_D_init_1637 : decode c_D_init 1637 = .ok (.sipush 194, 3) := by decide +kernel
theorem d_D_init_1640 : decode c_D_init 1640 = .ok (.iastore, 1) := by decide +kernel
theorem d_D_init_1641 : decode c_D_init 1641 = .ok (.dup, 1) := by decide +kernel
theorem d_D_init_1642 : decode c_D_init 1642 = .ok (.bipush 81, 2) := by decide +kernel
theorem d_D_init_1644 : decode c_D_init 1644 = .ok (.sipush 195, 3) := by decide +kernel
theorem d_D_init_1647 : decode c_D_init 1647 = .ok (.iastore, 1) := by decide +kernel
theorem d_D_init_1648 : decode c_D_init 1648 = .ok (.dup, 1) := by decide +kernel
theorem d_D_init_1649 : decode c_D_init 1649 = .ok (.bipush 82, 2) := by decide +kernel
theorem d_D_init_1651 : decode c_D_init 1651 = .ok (.sipush 201, 3) := by decide +kernel
theorem d_D_init_1654 : decode c_D_init 1654 = .ok (.iastore, 1) := by decide +kernel
theorem d_D_init_1655 : decode c_D_init 1655 = .ok (.dup, 1) := by decide +kernel
theorem d_D_init_1656 : decode c_D_init 1656 = .ok (.bipush 83, 2) := by decide +kernel
theorem d_D_init_1658 : decode c_D_init 1658 = .ok (.sipush 202, 3) := by decide +kernel
theorem d_D_init_1661 : decode c_D_init 1661 = .ok (.iastore, 1) := by decide +kernel
theorem d_D_init_1662 : decode c_D_init 1662 = .ok (.dup, 1) := by decide +kernel
theorem d_D_init_1663 : decode c_D_init 1663 = .ok (.bipush 84, 2) := by decide +kernel
theorem d_D_init_1665 : decode c_D_init 1665 = .ok (.sipush 205, 3) := by decide +kernel
theorem d_D_init_1668 : decode c_D_init 1668 = .ok (.iastore, 1) := by decide +kernel
theorem d_D_init_1669 : decode c_D_init 1669 = .ok (.dup, 1) := by decide +kernel
theorem d_D_init_1670 : decode c_D_init 1670 = .ok (.bipush 85, 2) := by decide +kernel
theorem d_D_init_1672 : decode c_D_init 1672 = .ok (.sipush 207, 3) := by decide +kernel
theorem d_D_init_1675 : decode c_D_init 1675 = .ok (.iastore, 1) := by decide +kernel
theorem d_D_init_1676 : decode c_D_init 1676 = .ok (.dup, 1) := by decide +kernel
theorem d_D_init_1677 : decode c_D_init 1677 = .ok (.bipush 86, 2) := by decide +kernel
theorem d_D_init_1679 : decode c_D_init 1679 = .ok (.sipush 196, 3) := by decide +kernel
theorem d_D_init_1682 : decode c_D_init 1682 = .ok (.iastore, 1) := by decide +kernel
theorem d_D_init_1683 : decode c_D_init 1683 = .ok (.dup, 1) := by decide +kernel
theorem d_D_init_1684 : decode c_D_init 1684 = .ok (.bipush 87, 2) := by decide +kernel
theorem d_D_init_1686 : decode c_D_init 1686 = .ok (.sipush 197, 3) := by decide +kernel
theorem d_D_init_1689 : decode c_D_init 1689 = .ok (.iastore, 1) := by decide +kernel
theorem d_D_init_1690 : decode c_D_init 1690 = .ok (.dup, 1) := by decide +kernel
theorem d_D_init_1691 : decode c_D_init 1691 = .ok (.bipush 88, 2) := by decide +kernel
theorem d_D_init_1693 : decode c_D_init 1693 = .ok (.sipush 198, 3) := by decide +kernel
theorem d_D_init_1696 : decode c_D_init 1696 = .ok (.iastore, 1) := by decide +kernel
theorem d_D_init_1697 : decode c_D_init 1697 = .ok (.dup, 1) := by decide +kernel
theorem d_D_init_1698 : decode c_D_init 1698 = .ok (.bipush 89, 2) := by decide +kernel
theorem d_D_init_1700 : decode c_D_init 1700 = .ok (.sipush 199, 3) := by decide +kernel
theorem d_D_init_1703 : decode c_D_init 1703 = .ok (.iastore, 1) := by decide +kernel
theorem d_D_init_1704 : decode c_D_init 1704 = .ok (.dup, 1) := by decide +kernel
theorem d_D_init_1705 : decode c_D_init 1705 = .ok (.bipush 90, 2) := by decide +kernel
theorem d_D_init_1707 : decode c_D_init 1707 = .ok (.iconst 0, 1) := by decide +kernel
theorem d_D_init_1708 : decode c_D_init 1708 = .ok (.iastore, 1) := by decide +kernel
theorem d_D_init_1709 : decode c_D_init 1709 = .ok (.putfield 199, 3) := by decide +kernel
theorem d_D_init_1712 : decode c_D_init 1712 = .ok (.aload_n 0, 1) := by decide +kernel
theorem d_D_init_1713 : decode c_D_init 1713 = .ok (.iconst (-1), 1) := by decide +kernel
theorem d_D_init_1714 : decode c_D_init 1714 = .ok (.putfield 202, 3) := by decide +kernel
theorem d_D_init_1717 : decode c_D_init 1717 = .ok (.aload_n 0, 1) := by decide +kernel
theorem d_D_init_1718 : decode c_D_init 1718 = .ok (.bipush 40, 2) := by decide +kernel
theorem d_D_init_1720 : decode c_D_init 1720 = .ok (.newarray .int, 2) := by decide +kernel
theorem d_D_init_1722 : decode c_D_init 1722 = .ok (.putfield 206, 3) := by decide +kernel
theorem d_D_init_1725 : decode c_D_init 1725 = .ok (.aload_n 0, 1) := by decide +kernel
theorem d_D_init_1726 : decode c_D_init 1726 = .ok (.sipush 1024, 3) := by decide +kernel
theorem d_D_init_1729 : decode c_D_init 1729 = .ok (.newarray .int, 2) := by decide +kernel
theorem d_D_init_1731 : decode c_D_init 1731 = .ok (.putfield 209, 3) := by decide +kernel
theorem d_D_init_1734 : decode c_D_init 1734 = .ok (.aload_n 0, 1) := by decide +kernel
theorem d_D_init_1735 : decode c_D_init 1735 = .ok (.bipush 8, 2) := by decide +kernel
theorem d_D_init_1737 : decode c_D_init 1737 = .ok (.newarray .int, 2) := by decide +kernel
theorem d_D_init_1739 : decode c_D_init 1739 = .ok (.putfield 212, 3) := by decide +kernel
theorem d_D_init_1742 : decode c_D_init 1742 = .ok (.aload_n 0, 1) := by decide +kernel
theorem d_D_init_1743 : decode c_D_init 1743 = .ok (.bipush 32, 2) := by decide +kernel
theorem d_D_init_1745 : decode c_D_init 1745 = .ok (.newarray .int, 2) := by decide +kernel
theorem d_D_init_1747 : decode c_D_init 1747 = .ok (.putfield 215, 3) := by decide +kernel
theorem d_D_init_1750 : decode c_D_init 1750 = .ok (.aload_n 0, 1) := by decide +kernel
theorem d_D_init_1751 : decode c_D_init 1751 = .ok (.bipush 32, 2) := by decide +kernel
theorem d_D_init_1753 : decode c_D_init 1753 = .ok (.newarray .int, 2) := by decide +kernel
theorem d_D_init_1755 : decode c_D_init 1755 = .ok (.putfield 218, 3) := by decide +kernel
theorem d_D_init_1758 : decode c_D_init 1758 = .ok (.aload_n 0, 1) := by decide +kernel
theorem d_D_init_1759 : decode c_D_init 1759 = .ok (.iconst (-1), 1) := by decide +kernel
theorem d_D_init_1760 : decode c_D_init 1760 = .ok (.putfield 221, 3) := by decide +kernel
theorem d_D_init_1763 : decode c_D_init 1763 = .ok (.aload_n 0, 1) := by decide +kernel
theorem d_D_init_1764 : decode c_D_init 1764 = .ok (.iconst 0, 1) := by decide +kernel
theorem d_D_init_1765 : decode c_D_init 1765 = .ok (.invokevirtual 224, 3) := by decide +kernel
theorem d_D_init_1768 : decode c_D_init 1768 = .ok (.return_, 1) := by decide +kernel
set_option maxHeartbeats 4000000 in
set_option maxRecDepth 100000 in
theorem ch_D_init_9 {p : Program} {l : Launch} {e : Env} {R : Room} {s : State} {m : MethodId} {args : Array Value} {below : List Frame} {meth : Method} {c : Code} {H : Heap} {locs : List Loc} {cells slots : Nat} {Q : State → Prop} {ls : Array Slot} {D : va_G} {A : Nat → Prop} {fs : List Value} {x0 : Nat} {q : Nat} {cq : ClassId} {rest : List Value} (hx : p.tables.exec = Jvm.exec) (hb : c.code = c_D_init) (hown : s.vm.findClass "WindowMachineModel" = some m.cls) (ht : ∀ w9 ∈ zT, w9.before args s = true) (hK : va_K D vwCl [(cq, .long)] s) (hP : va_P D vwCl [(x0, .inr (6, fs)), (q, .inl (cq, 91, .inr (.inl (tbL nmL 0))))] H) (hD : va_D A [(x0, .inr (6, fs)), (q, .inl (cq, 91, .inr (.inl (tbL nmL 0))))]) (hS : va_S A s.heap H locs)
    (kk : ∀ (H : Heap) (locs : List Loc), va_P D vwCl [(x0, .inr (6, fs)), (q, .inl (cq, 91, .inr (.inl (tbL nmL 13))))] H → va_D A [(x0, .inr (6, fs)), (q, .inl (cq, 91, .inr (.inl (tbL nmL 13))))] → va_S A s.heap H locs → W p l e R s m args below meth c H locs cells slots Q (F0 m 94 ls (.ref q :: rest))) : W p l e R s m args below meth c H locs cells slots Q (F0 m 9 ls (.ref q :: rest)) := by
  refine lv_dup hx hb d_D_init_9 rfl ?_
  refine lv_iconst (v := (0 : Int32)) hx hb d_D_init_10 (by decide) ?_
  refine lv_ldc2 (v := (6579297 : Int64)) hx hb hown (ht _ zw_759) d_D_init_11 ?_
  refine va_last hx hb hK hP hD hS 1 0 rfl rfl (by unfold vp_in; decide) d_D_init_14 (fun H locs hP hD hS => ?_)
  have hP : va_P D vwCl ([(x0, .inr (6, fs)), (q, .inl (cq, 91, .inr (.inl (vp_updL (tbL nmL 0) (0 : Int32).toNatClampNeg (6579297 : Int64)))))]) H := hP
  have hD : va_D A ([(x0, .inr (6, fs)), (q, .inl (cq, 91, .inr (.inl (vp_updL (tbL nmL 0) (0 : Int32).toNatClampNeg (6579297 : Int64)))))]) := hD
  rw [tbL_s (k := 0) rfl rfl] at hP hD
  refine lv_dup hx hb d_D_init_15 rfl ?_
  refine lv_iconst (v := (1 : Int32)) hx hb d_D_init_16 (by decide) ?_
  refine lv_ldc2 (v := (426869285985 : Int64)) hx hb hown (ht _ zw_760) d_D_init_17 ?_
  refine va_last hx hb hK hP hD hS 1 0 rfl rfl (by unfold vp_in; decide) d_D_init_20 (fun H locs hP hD hS => ?_)
  have hP : va_P D vwCl ([(x0, .inr (6, fs)), (q, .inl (cq, 91, .inr (.inl (vp_updL (tbL nmL 1) (1 : Int32).toNatClampNeg (426869285985 : Int64)))))]) H := hP
  have hD : va_D A ([(x0, .inr (6, fs)), (q, .inl (cq, 91, .inr (.inl (vp_updL (tbL nmL 1) (1 : Int32).toNatClampNeg (426869285985 : Int64)))))]) := hD
  rw [tbL_s (k := 1) rfl rfl] at hP hD
  refine lv_dup hx hb d_D_init_21 rfl ?_
  refine lv_iconst (v := (2 : Int32)) hx hb d_D_init_22 (by decide) ?_
  refine lv_ldc2 (v := (6581857 : Int64)) hx hb hown (ht _ zw_761) d_D_init_23 ?_
  refine va_last hx hb hK hP hD hS 1 0 rfl rfl (by unfold vp_in; decide) d_D_init_26 (fun H locs hP hD hS => ?_)
  have hP : va_P D vwCl ([(x0, .inr (6, fs)), (q, .inl (cq, 91, .inr (.inl (vp_updL (tbL nmL 2) (2 : Int32).toNatClampNeg (6581857 : Int64)))))]) H := hP
  have hD : va_D A ([(x0, .inr (6, fs)), (q, .inl (cq, 91, .inr (.inl (vp_updL (tbL nmL 2) (2 : Int32).toNatClampNeg (6581857 : Int64)))))]) := hD
  rw [tbL_s (k := 2) rfl rfl] at hP hD
  refine lv_dup hx hb d_D_init_27 rfl ?_
  refine lv_iconst (v := (3 : Int32)) hx hb d_D_init_28 (by decide) ?_
  refine lv_ldc2 (v := (426869288545 : Int64)) hx hb hown (ht _ zw_762) d_D_init_29 ?_
  refine va_last hx hb hK hP hD hS 1 0 rfl rfl (by unfold vp_in; decide) d_D_init_32 (fun H locs hP hD hS => ?_)
  have hP : va_P D vwCl ([(x0, .inr (6, fs)), (q, .inl (cq, 91, .inr (.inl (vp_updL (tbL nmL 3) (3 : Int32).toNatClampNeg (426869288545 : Int64)))))]) H := hP
  have hD : va_D A ([(x0, .inr (6, fs)), (q, .inl (cq, 91, .inr (.inl (vp_updL (tbL nmL 3) (3 : Int32).toNatClampNeg (426869288545 : Int64)))))]) := hD
  rw [tbL_s (k := 3) rfl rfl] at hP hD
  refine lv_dup hx hb d_D_init_33 rfl ?_
  refine lv_iconst (v := (4 : Int32)) hx hb d_D_init_34 (by decide) ?_
  refine lv_ldc2 (v := (29295 : Int64)) hx hb hown (ht _ zw_763) d_D_init_35 ?_
  refine va_last hx hb hK hP hD hS 1 0 rfl rfl (by unfold vp_in; decide) d_D_init_38 (fun H locs hP hD hS => ?_)
  have hP : va_P D vwCl ([(x0, .inr (6, fs)), (q, .inl (cq, 91, .inr (.inl (vp_updL (tbL nmL 4) (4 : Int32).toNatClampNeg (29295 : Int64)))))]) H := hP
  have hD : va_D A ([(x0, .inr (6, fs)), (q, .inl (cq, 91, .inr (.inl (vp_updL (tbL nmL 4) (4 : Int32).toNatClampNeg (29295 : Int64)))))]) := hD
  rw [tbL_s (k := 4) rfl rfl] at hP hD
  refine lv_dup hx hb d_D_init_39 rfl ?_
  refine lv_iconst (v := (5 : Int32)) hx hb d_D_init_40 (by decide) ?_
  refine lv_ldc2 (v := (1667461743 : Int64)) hx hb hown (ht _ zw_764) d_D_init_41 ?_
  refine va_last hx hb hK hP hD hS 1 0 rfl rfl (by unfold vp_in; decide) d_D_init_44 (fun H locs hP hD hS => ?_)
  have hP : va_P D vwCl ([(x0, .inr (6, fs)), (q, .inl (cq, 91, .inr (.inl (vp_updL (tbL nmL 5) (5 : Int32).toNatClampNeg (1667461743 : Int64)))))]) H := hP
  have hD : va_D A ([(x0, .inr (6, fs)), (q, .inl (cq, 91, .inr (.inl (vp_updL (tbL nmL 5) (5 : Int32).toNatClampNeg (1667461743 : Int64)))))]) := hD
  rw [tbL_s (k := 5) rfl rfl] at hP hD
  refine lv_dup hx hb d_D_init_45 rfl ?_
  refine lv_bipush (v := (6 : Int32)) hx hb d_D_init_46 (by decide) ?_
  refine lv_ldc2 (v := (7499640 : Int64)) hx hb hown (ht _ zw_765) d_D_init_48 ?_
  refine va_last hx hb hK hP hD hS 1 0 rfl rfl (by unfold vp_in; decide) d_D_init_51 (fun H locs hP hD hS => ?_)
  have hP : va_P D vwCl ([(x0, .inr (6, fs)), (q, .inl (cq, 91, .inr (.inl (vp_updL (tbL nmL 6) (6 : Int32).toNatClampNeg (7499640 : Int64)))))]) H := hP
  have hD : va_D A ([(x0, .inr (6, fs)), (q, .inl (cq, 91, .inr (.inl (vp_updL (tbL nmL 6) (6 : Int32).toNatClampNeg (7499640 : Int64)))))]) := hD
  rw [tbL_s (k := 6) rfl rfl] at hP hD
  refine lv_dup hx hb d_D_init_52 rfl ?_
  refine lv_bipush (v := (7 : Int32)) hx hb d_D_init_53 (by decide) ?_
  refine lv_ldc2 (v := (426870206328 : Int64)) hx hb hown (ht _ zw_766) d_D_init_55 ?_
  refine va_last hx hb hK hP hD hS 1 0 rfl rfl (by unfold vp_in; decide) d_D_init_58 (fun H locs hP hD hS => ?_)
  have hP : va_P D vwCl ([(x0, .inr (6, fs)), (q, .inl (cq, 91, .inr (.inl (vp_updL (tbL nmL 7) (7 : Int32).toNatClampNeg (426870206328 : Int64)))))]) H := hP
  have hD : va_D A ([(x0, .inr (6, fs)), (q, .inl (cq, 91, .inr (.inl (vp_updL (tbL nmL 7) (7 : Int32).toNatClampNeg (426870206328 : Int64)))))]) := hD
  rw [tbL_s (k := 7) rfl rfl] at hP hD
  refine lv_dup hx hb d_D_init_59 rfl ?_
  refine lv_bipush (v := (8 : Int32)) hx hb d_D_init_60 (by decide) ?_
  refine lv_ldc2 (v := (6452595 : Int64)) hx hb hown (ht _ zw_767) d_D_init_62 ?_
  refine va_last hx hb hK hP hD hS 1 0 rfl rfl (by unfold vp_in; decide) d_D_init_65 (fun H locs hP hD hS => ?_)
  have hP : va_P D vwCl ([(x0, .inr (6, fs)), (q, .inl (cq, 91, .inr (.inl (vp_updL (tbL nmL 8) (8 : Int32).toNatClampNeg (6452595 : Int64)))))]) H := hP
  have hD : va_D A ([(x0, .inr (6, fs)), (q, .inl (cq, 91, .inr (.inl (vp_updL (tbL nmL 8) (8 : Int32).toNatClampNeg (6452595 : Int64)))))]) := hD
  rw [tbL_s (k := 8) rfl rfl] at hP hD
  refine lv_dup hx hb d_D_init_66 rfl ?_
  refine lv_bipush (v := (9 : Int32)) hx hb d_D_init_67 (by decide) ?_
  refine lv_ldc2 (v := (426869159283 : Int64)) hx hb hown (ht _ zw_768) d_D_init_69 ?_
  refine va_last hx hb hK hP hD hS 1 0 rfl rfl (by unfold vp_in; decide) d_D_init_72 (fun H locs hP hD hS => ?_)
  have hP : va_P D vwCl ([(x0, .inr (6, fs)), (q, .inl (cq, 91, .inr (.inl (vp_updL (tbL nmL 9) (9 : Int32).toNatClampNeg (426869159283 : Int64)))))]) H := hP
  have hD : va_D A ([(x0, .inr (6, fs)), (q, .inl (cq, 91, .inr (.inl (vp_updL (tbL nmL 9) (9 : Int32).toNatClampNeg (426869159283 : Int64)))))]) := hD
  rw [tbL_s (k := 9) rfl rfl] at hP hD
  refine lv_dup hx hb d_D_init_73 rfl ?_
  refine lv_bipush (v := (10 : Int32)) hx hb d_D_init_74 (by decide) ?_
  refine lv_ldc2 (v := (1852075617 : Int64)) hx hb hown (ht _ zw_769) d_D_init_76 ?_
  refine va_last hx hb hK hP hD hS 1 0 rfl rfl (by unfold vp_in; decide) d_D_init_79 (fun H locs hP hD hS => ?_)
  have hP : va_P D vwCl ([(x0, .inr (6, fs)), (q, .inl (cq, 91, .inr (.inl (vp_updL (tbL nmL 10) (10 : Int32).toNatClampNeg (1852075617 : Int64)))))]) H := hP
  have hD : va_D A ([(x0, .inr (6, fs)), (q, .inl (cq, 91, .inr (.inl (vp_updL (tbL nmL 10) (10 : Int32).toNatClampNeg (1852075617 : Int64)))))]) := hD
  rw [tbL_s (k := 10) rfl rfl] at hP hD
  refine lv_dup hx hb d_D_init_80 rfl ?_
  refine lv_bipush (v := (11 : Int32)) hx hb d_D_init_81 (by decide) ?_
  refine lv_ldc2 (v := (109278704987745 : Int64)) hx hb hown (ht _ zw_770) d_D_init_83 ?_
  refine va_last hx hb hK hP hD hS 1 0 rfl rfl (by unfold vp_in; decide) d_D_init_86 (fun H locs hP hD hS => ?_)
  have hP : va_P D vwCl ([(x0, .inr (6, fs)), (q, .inl (cq, 91, .inr (.inl (vp_updL (tbL nmL 11) (11 : Int32).toNatClampNeg (109278704987745 : Int64)))))]) H := hP
  have hD : va_D A ([(x0, .inr (6, fs)), (q, .inl (cq, 91, .inr (.inl (vp_updL (tbL nmL 11) (11 : Int32).toNatClampNeg (109278704987745 : Int64)))))]) := hD
  rw [tbL_s (k := 11) rfl rfl] at hP hD
  refine lv_dup hx hb d_D_init_87 rfl ?_
  refine lv_bipush (v := (12 : Int32)) hx hb d_D_init_88 (by decide) ?_
  refine lv_ldc2 (v := (7238255 : Int64)) hx hb hown (ht _ zw_771) d_D_init_90 ?_
  refine va_last hx hb hK hP hD hS 1 0 rfl rfl (by unfold vp_in; decide) d_D_init_93 (fun H locs hP hD hS => ?_)
  have hP : va_P D vwCl ([(x0, .inr (6, fs)), (q, .inl (cq, 91, .inr (.inl (vp_updL (tbL nmL 12) (12 : Int32).toNatClampNeg (7238255 : Int64)))))]) H := hP
  have hD : va_D A ([(x0, .inr (6, fs)), (q, .inl (cq, 91, .inr (.inl (vp_updL (tbL nmL 12) (12 : Int32).toNatClampNeg (7238255 : Int64)))))]) := hD
  rw [tbL_s (k := 12) rfl rfl] at hP hD
  exact kk H locs hP hD hS
set_option maxHeartbeats 4000000 in
set_option maxRecDepth 100000 in
theorem ch_D_init_94 {p : Program} {l : Launch} {e : Env} {R : Room} {s : State} {m : MethodId} {args : Array Value} {below : List Frame} {meth : Method} {c : Code} {H : Heap} {locs : List Loc} {cells slots : Nat} {Q : State → Prop} {ls : Array Slot} {D : va_G} {A : Nat → Prop} {fs : List Value} {x0 : Nat} {q : Nat} {cq : ClassId} {rest : List Value} (hx : p.tables.exec = Jvm.exec) (hb : c.code = c_D_init) (hown : s.vm.findClass "WindowMachineModel" = some m.cls) (ht : ∀ w9 ∈ zT, w9.before args s = true) (hK : va_K D vwCl [(cq, .long)] s) (hP : va_P D vwCl [(x0, .inr (6, fs)), (q, .inl (cq, 91, .inr (.inl (tbL nmL 13))))] H) (hD : va_D A [(x0, .inr (6, fs)), (q, .inl (cq, 91, .inr (.inl (tbL nmL 13))))]) (hS : va_S A s.heap H locs)
    (kk : ∀ (H : Heap) (locs : List Loc), va_P D vwCl [(x0, .inr (6, fs)), (q, .inl (cq, 91, .inr (.inl (tbL nmL 26))))] H → va_D A [(x0, .inr (6, fs)), (q, .inl (cq, 91, .inr (.inl (tbL nmL 26))))] → va_S A s.heap H locs → W p l e R s m args below meth c H locs cells slots Q (F0 m 185 ls (.ref q :: rest))) : W p l e R s m args below meth c H locs cells slots Q (F0 m 94 ls (.ref q :: rest)) := by
  refine lv_dup hx hb d_D_init_94 rfl ?_
  refine lv_bipush (v := (13 : Int32)) hx hb d_D_init_95 (by decide) ?_
  refine lv_ldc2 (v := (426869944943 : Int64)) hx hb hown (ht _ zw_772) d_D_init_97 ?_
  refine va_last hx hb hK hP hD hS 1 0 rfl rfl (by unfold vp_in; decide) d_D_init_100 (fun H locs hP hD hS => ?_)
  have hP : va_P D vwCl ([(x0, .inr (6, fs)), (q, .inl (cq, 91, .inr (.inl (vp_updL (tbL nmL 13) (13 : Int32).toNatClampNeg (426869944943 : Int64)))))]) H := hP
  have hD : va_D A ([(x0, .inr (6, fs)), (q, .inl (cq, 91, .inr (.inl (vp_updL (tbL nmL 13) (13 : Int32).toNatClampNeg (426869944943 : Int64)))))]) := hD
  rw [tbL_s (k := 13) rfl rfl] at hP hD
  refine lv_dup hx hb d_D_init_101 rfl ?_
  refine lv_bipush (v := (14 : Int32)) hx hb d_D_init_102 (by decide) ?_
  refine lv_ldc2 (v := (1919905400 : Int64)) hx hb hown (ht _ zw_773) d_D_init_104 ?_
  refine va_last hx hb hK hP hD hS 1 0 rfl rfl (by unfold vp_in; decide) d_D_init_107 (fun H locs hP hD hS => ?_)
  have hP : va_P D vwCl ([(x0, .inr (6, fs)), (q, .inl (cq, 91, .inr (.inl (vp_updL (tbL nmL 14) (14 : Int32).toNatClampNeg (1919905400 : Int64)))))]) H := hP
  have hD : va_D A ([(x0, .inr (6, fs)), (q, .inl (cq, 91, .inr (.inl (vp_updL (tbL nmL 14) (14 : Int32).toNatClampNeg (1919905400 : Int64)))))]) := hD
  rw [tbL_s (k := 14) rfl rfl] at hP hD
  refine lv_dup hx hb d_D_init_108 rfl ?_
  refine lv_bipush (v := (15 : Int32)) hx hb d_D_init_109 (by decide) ?_
  refine lv_ldc2 (v := (109278772817528 : Int64)) hx hb hown (ht _ zw_774) d_D_init_111 ?_
  refine va_last hx hb hK hP hD hS 1 0 rfl rfl (by unfold vp_in; decide) d_D_init_114 (fun H locs hP hD hS => ?_)
  have hP : va_P D vwCl ([(x0, .inr (6, fs)), (q, .inl (cq, 91, .inr (.inl (vp_updL (tbL nmL 15) (15 : Int32).toNatClampNeg (109278772817528 : Int64)))))]) H := hP
  have hD : va_D A ([(x0, .inr (6, fs)), (q, .inl (cq, 91, .inr (.inl (vp_updL (tbL nmL 15) (15 : Int32).toNatClampNeg (109278772817528 : Int64)))))]) := hD
  rw [tbL_s (k := 15) rfl rfl] at hP hD
  refine lv_dup hx hb d_D_init_115 rfl ?_
  refine lv_bipush (v := (16 : Int32)) hx hb d_D_init_116 (by decide) ?_
  refine lv_ldc2 (v := (2019845217 : Int64)) hx hb hown (ht _ zw_775) d_D_init_118 ?_
  refine va_last hx hb hK hP hD hS 1 0 rfl rfl (by unfold vp_in; decide) d_D_init_121 (fun H locs hP hD hS => ?_)
  have hP : va_P D vwCl ([(x0, .inr (6, fs)), (q, .inl (cq, 91, .inr (.inl (vp_updL (tbL nmL 16) (16 : Int32).toNatClampNeg (2019845217 : Int64)))))]) H := hP
  have hD : va_D A ([(x0, .inr (6, fs)), (q, .inl (cq, 91, .inr (.inl (vp_updL (tbL nmL 16) (16 : Int32).toNatClampNeg (2019845217 : Int64)))))]) := hD
  rw [tbL_s (k := 16) rfl rfl] at hP hD
  refine lv_dup hx hb d_D_init_122 rfl ?_
  refine lv_bipush (v := (17 : Int32)) hx hb d_D_init_123 (by decide) ?_
  refine lv_ldc2 (v := (109278872757345 : Int64)) hx hb hown (ht _ zw_776) d_D_init_125 ?_
  refine va_last hx hb hK hP hD hS 1 0 rfl rfl (by unfold vp_in; decide) d_D_init_128 (fun H locs hP hD hS => ?_)
  have hP : va_P D vwCl ([(x0, .inr (6, fs)), (q, .inl (cq, 91, .inr (.inl (vp_updL (tbL nmL 17) (17 : Int32).toNatClampNeg (109278872757345 : Int64)))))]) H := hP
  have hD : va_D A ([(x0, .inr (6, fs)), (q, .inl (cq, 91, .inr (.inl (vp_updL (tbL nmL 17) (17 : Int32).toNatClampNeg (109278872757345 : Int64)))))]) := hD
  rw [tbL_s (k := 17) rfl rfl] at hP hD
  refine lv_dup hx hb d_D_init_129 rfl ?_
  refine lv_bipush (v := (18 : Int32)) hx hb d_D_init_130 (by decide) ?_
  refine lv_ldc2 (v := (2019718515 : Int64)) hx hb hown (ht _ zw_777) d_D_init_132 ?_
  refine va_last hx hb hK hP hD hS 1 0 rfl rfl (by unfold vp_in; decide) d_D_init_135 (fun H locs hP hD hS => ?_)
  have hP : va_P D vwCl ([(x0, .inr (6, fs)), (q, .inl (cq, 91, .inr (.inl (vp_updL (tbL nmL 18) (18 : Int32).toNatClampNeg (2019718515 : Int64)))))]) H := hP
  have hD : va_D A ([(x0, .inr (6, fs)), (q, .inl (cq, 91, .inr (.inl (vp_updL (tbL nmL 18) (18 : Int32).toNatClampNeg (2019718515 : Int64)))))]) := hD
  rw [tbL_s (k := 18) rfl rfl] at hP hD
  refine lv_dup hx hb d_D_init_136 rfl ?_
  refine lv_bipush (v := (19 : Int32)) hx hb d_D_init_137 (by decide) ?_
  refine lv_ldc2 (v := (109278872630643 : Int64)) hx hb hown (ht _ zw_778) d_D_init_139 ?_
  refine va_last hx hb hK hP hD hS 1 0 rfl rfl (by unfold vp_in; decide) d_D_init_142 (fun H locs hP hD hS => ?_)
  have hP : va_P D vwCl ([(x0, .inr (6, fs)), (q, .inl (cq, 91, .inr (.inl (vp_updL (tbL nmL 19) (19 : Int32).toNatClampNeg (109278872630643 : Int64)))))]) H := hP
  have hD : va_D A ([(x0, .inr (6, fs)), (q, .inl (cq, 91, .inr (.inl (vp_updL (tbL nmL 19) (19 : Int32).toNatClampNeg (109278872630643 : Int64)))))]) := hD
  rw [tbL_s (k := 19) rfl rfl] at hP hD
  refine lv_dup hx hb d_D_init_143 rfl ?_
  refine lv_bipush (v := (20 : Int32)) hx hb d_D_init_144 (by decide) ?_
  refine lv_ldc2 (v := (1819635061 : Int64)) hx hb hown (ht _ zw_779) d_D_init_146 ?_
  refine va_last hx hb hK hP hD hS 1 0 rfl rfl (by unfold vp_in; decide) d_D_init_149 (fun H locs hP hD hS => ?_)
  have hP : va_P D vwCl ([(x0, .inr (6, fs)), (q, .inl (cq, 91, .inr (.inl (vp_updL (tbL nmL 20) (20 : Int32).toNatClampNeg (1819635061 : Int64)))))]) H := hP
  have hD : va_D A ([(x0, .inr (6, fs)), (q, .inl (cq, 91, .inr (.inl (vp_updL (tbL nmL 20) (20 : Int32).toNatClampNeg (1819635061 : Int64)))))]) := hD
  rw [tbL_s (k := 20) rfl rfl] at hP hD
  refine lv_dup hx hb d_D_init_150 rfl ?_
  refine lv_bipush (v := (21 : Int32)) hx hb d_D_init_151 (by decide) ?_
  refine lv_ldc2 (v := (109278672547189 : Int64)) hx hb hown (ht _ zw_780) d_D_init_153 ?_
  refine va_last hx hb hK hP hD hS 1 0 rfl rfl (by unfold vp_in; decide) d_D_init_156 (fun H locs hP hD hS => ?_)
  have hP : va_P D vwCl ([(x0, .inr (6, fs)), (q, .inl (cq, 91, .inr (.inl (vp_updL (tbL nmL 21) (21 : Int32).toNatClampNeg (109278672547189 : Int64)))))]) H := hP
  have hD : va_D A ([(x0, .inr (6, fs)), (q, .inl (cq, 91, .inr (.inl (vp_updL (tbL nmL 21) (21 : Int32).toNatClampNeg (109278672547189 : Int64)))))]) := hD
  rw [tbL_s (k := 21) rfl rfl] at hP hD
  refine lv_dup hx hb d_D_init_157 rfl ?_
  refine lv_bipush (v := (22 : Int32)) hx hb d_D_init_158 (by decide) ?_
  refine lv_ldc2 (v := (1819635059 : Int64)) hx hb hown (ht _ zw_781) d_D_init_160 ?_
  refine va_last hx hb hK hP hD hS 1 0 rfl rfl (by unfold vp_in; decide) d_D_init_163 (fun H locs hP hD hS => ?_)
  have hP : va_P D vwCl ([(x0, .inr (6, fs)), (q, .inl (cq, 91, .inr (.inl (vp_updL (tbL nmL 22) (22 : Int32).toNatClampNeg (1819635059 : Int64)))))]) H := hP
  have hD : va_D A ([(x0, .inr (6, fs)), (q, .inl (cq, 91, .inr (.inl (vp_updL (tbL nmL 22) (22 : Int32).toNatClampNeg (1819635059 : Int64)))))]) := hD
  rw [tbL_s (k := 22) rfl rfl] at hP hD
  refine lv_dup hx hb d_D_init_164 rfl ?_
  refine lv_bipush (v := (23 : Int32)) hx hb d_D_init_165 (by decide) ?_
  refine lv_ldc2 (v := (109278672547187 : Int64)) hx hb hown (ht _ zw_782) d_D_init_167 ?_
  refine va_last hx hb hK hP hD hS 1 0 rfl rfl (by unfold vp_in; decide) d_D_init_170 (fun H locs hP hD hS => ?_)
  have hP : va_P D vwCl ([(x0, .inr (6, fs)), (q, .inl (cq, 91, .inr (.inl (vp_updL (tbL nmL 23) (23 : Int32).toNatClampNeg (109278672547187 : Int64)))))]) H := hP
  have hD : va_D A ([(x0, .inr (6, fs)), (q, .inl (cq, 91, .inr (.inl (vp_updL (tbL nmL 23) (23 : Int32).toNatClampNeg (109278672547187 : Int64)))))]) := hD
  rw [tbL_s (k := 23) rfl rfl] at hP hD
  refine lv_dup hx hb d_D_init_171 rfl ?_
  refine lv_bipush (v := (24 : Int32)) hx hb d_D_init_172 (by decide) ?_
  refine lv_ldc2 (v := (1986618485 : Int64)) hx hb hown (ht _ zw_783) d_D_init_174 ?_
  refine va_last hx hb hK hP hD hS 1 0 rfl rfl (by unfold vp_in; decide) d_D_init_177 (fun H locs hP hD hS => ?_)
  have hP : va_P D vwCl ([(x0, .inr (6, fs)), (q, .inl (cq, 91, .inr (.inl (vp_updL (tbL nmL 24) (24 : Int32).toNatClampNeg (1986618485 : Int64)))))]) H := hP
  have hD : va_D A ([(x0, .inr (6, fs)), (q, .inl (cq, 91, .inr (.inl (vp_updL (tbL nmL 24) (24 : Int32).toNatClampNeg (1986618485 : Int64)))))]) := hD
  rw [tbL_s (k := 24) rfl rfl] at hP hD
  refine lv_dup hx hb d_D_init_178 rfl ?_
  refine lv_bipush (v := (25 : Int32)) hx hb d_D_init_179 (by decide) ?_
  refine lv_ldc2 (v := (109278839530613 : Int64)) hx hb hown (ht _ zw_784) d_D_init_181 ?_
  refine va_last hx hb hK hP hD hS 1 0 rfl rfl (by unfold vp_in; decide) d_D_init_184 (fun H locs hP hD hS => ?_)
  have hP : va_P D vwCl ([(x0, .inr (6, fs)), (q, .inl (cq, 91, .inr (.inl (vp_updL (tbL nmL 25) (25 : Int32).toNatClampNeg (109278839530613 : Int64)))))]) H := hP
  have hD : va_D A ([(x0, .inr (6, fs)), (q, .inl (cq, 91, .inr (.inl (vp_updL (tbL nmL 25) (25 : Int32).toNatClampNeg (109278839530613 : Int64)))))]) := hD
  rw [tbL_s (k := 25) rfl rfl] at hP hD
  exact kk H locs hP hD hS
set_option maxHeartbeats 4000000 in
set_option maxRecDepth 100000 in
theorem ch_D_init_185 {p : Program} {l : Launch} {e : Env} {R : Room} {s : State} {m : MethodId} {args : Array Value} {below : List Frame} {meth : Method} {c : Code} {H : Heap} {locs : List Loc} {cells slots : Nat} {Q : State → Prop} {ls : Array Slot} {D : va_G} {A : Nat → Prop} {fs : List Value} {x0 : Nat} {q : Nat} {cq : ClassId} {rest : List Value} (hx : p.tables.exec = Jvm.exec) (hb : c.code = c_D_init) (hown : s.vm.findClass "WindowMachineModel" = some m.cls) (ht : ∀ w9 ∈ zT, w9.before args s = true) (hK : va_K D vwCl [(cq, .long)] s) (hP : va_P D vwCl [(x0, .inr (6, fs)), (q, .inl (cq, 91, .inr (.inl (tbL nmL 26))))] H) (hD : va_D A [(x0, .inr (6, fs)), (q, .inl (cq, 91, .inr (.inl (tbL nmL 26))))]) (hS : va_S A s.heap H locs)
    (kk : ∀ (H : Heap) (locs : List Loc), va_P D vwCl [(x0, .inr (6, fs)), (q, .inl (cq, 91, .inr (.inl (tbL nmL 39))))] H → va_D A [(x0, .inr (6, fs)), (q, .inl (cq, 91, .inr (.inl (tbL nmL 39))))] → va_S A s.heap H locs → W p l e R s m args below meth c H locs cells slots Q (F0 m 276 ls (.ref q :: rest))) : W p l e R s m args below meth c H locs cells slots Q (F0 m 185 ls (.ref q :: rest)) := by
  refine lv_dup hx hb d_D_init_185 rfl ?_
  refine lv_bipush (v := (26 : Int32)) hx hb d_D_init_186 (by decide) ?_
  refine lv_ldc2 (v := (1986618483 : Int64)) hx hb hown (ht _ zw_785) d_D_init_188 ?_
  refine va_last hx hb hK hP hD hS 1 0 rfl rfl (by unfold vp_in; decide) d_D_init_191 (fun H locs hP hD hS => ?_)
  have hP : va_P D vwCl ([(x0, .inr (6, fs)), (q, .inl (cq, 91, .inr (.inl (vp_updL (tbL nmL 26) (26 : Int32).toNatClampNeg (1986618483 : Int64)))))]) H := hP
  have hD : va_D A ([(x0, .inr (6, fs)), (q, .inl (cq, 91, .inr (.inl (vp_updL (tbL nmL 26) (26 : Int32).toNatClampNeg (1986618483 : Int64)))))]) := hD
  rw [tbL_s (k := 26) rfl rfl] at hP hD
  refine lv_dup hx hb d_D_init_192 rfl ?_
  refine lv_bipush (v := (27 : Int32)) hx hb d_D_init_193 (by decide) ?_
  refine lv_ldc2 (v := (109278839530611 : Int64)) hx hb hown (ht _ zw_786) d_D_init_195 ?_
  refine va_last hx hb hK hP hD hS 1 0 rfl rfl (by unfold vp_in; decide) d_D_init_198 (fun H locs hP hD hS => ?_)
  have hP : va_P D vwCl ([(x0, .inr (6, fs)), (q, .inl (cq, 91, .inr (.inl (vp_updL (tbL nmL 27) (27 : Int32).toNatClampNeg (109278839530611 : Int64)))))]) H := hP
  have hD : va_D A ([(x0, .inr (6, fs)), (q, .inl (cq, 91, .inr (.inl (vp_updL (tbL nmL 27) (27 : Int32).toNatClampNeg (109278839530611 : Int64)))))]) := hD
  rw [tbL_s (k := 27) rfl rfl] at hP hD
  refine lv_dup hx hb d_D_init_199 rfl ?_
  refine lv_bipush (v := (28 : Int32)) hx hb d_D_init_200 (by decide) ?_
  refine lv_ldc2 (v := (109278789399917 : Int64)) hx hb hown (ht _ zw_787) d_D_init_202 ?_
  refine va_last hx hb hK hP hD hS 1 0 rfl rfl (by unfold vp_in; decide) d_D_init_205 (fun H locs hP hD hS => ?_)
  have hP : va_P D vwCl ([(x0, .inr (6, fs)), (q, .inl (cq, 91, .inr (.inl (vp_updL (tbL nmL 28) (28 : Int32).toNatClampNeg (109278789399917 : Int64)))))]) H := hP
  have hD : va_D A ([(x0, .inr (6, fs)), (q, .inl (cq, 91, .inr (.inl (vp_updL (tbL nmL 28) (28 : Int32).toNatClampNeg (109278789399917 : Int64)))))]) := hD
  rw [tbL_s (k := 28) rfl rfl] at hP hD
  refine lv_dup hx hb d_D_init_206 rfl ?_
  refine lv_bipush (v := (29 : Int32)) hx hb d_D_init_207 (by decide) ?_
  refine lv_ldc2 (v := (7105651 : Int64)) hx hb hown (ht _ zw_788) d_D_init_209 ?_
  refine va_last hx hb hK hP hD hS 1 0 rfl rfl (by unfold vp_in; decide) d_D_init_212 (fun H locs hP hD hS => ?_)
  have hP : va_P D vwCl ([(x0, .inr (6, fs)), (q, .inl (cq, 91, .inr (.inl (vp_updL (tbL nmL 29) (29 : Int32).toNatClampNeg (7105651 : Int64)))))]) H := hP
  have hD : va_D A ([(x0, .inr (6, fs)), (q, .inl (cq, 91, .inr (.inl (vp_updL (tbL nmL 29) (29 : Int32).toNatClampNeg (7105651 : Int64)))))]) := hD
  rw [tbL_s (k := 29) rfl rfl] at hP hD
  refine lv_dup hx hb d_D_init_213 rfl ?_
  refine lv_bipush (v := (30 : Int32)) hx hb d_D_init_214 (by decide) ?_
  refine lv_ldc2 (v := (7107187 : Int64)) hx hb hown (ht _ zw_789) d_D_init_216 ?_
  refine va_last hx hb hK hP hD hS 1 0 rfl rfl (by unfold vp_in; decide) d_D_init_219 (fun H locs hP hD hS => ?_)
  have hP : va_P D vwCl ([(x0, .inr (6, fs)), (q, .inl (cq, 91, .inr (.inl (vp_updL (tbL nmL 30) (30 : Int32).toNatClampNeg (7107187 : Int64)))))]) H := hP
  have hD : va_D A ([(x0, .inr (6, fs)), (q, .inl (cq, 91, .inr (.inl (vp_updL (tbL nmL 30) (30 : Int32).toNatClampNeg (7107187 : Int64)))))]) := hD
  rw [tbL_s (k := 30) rfl rfl] at hP hD
  refine lv_dup hx hb d_D_init_220 rfl ?_
  refine lv_bipush (v := (31 : Int32)) hx hb d_D_init_221 (by decide) ?_
  refine lv_ldc2 (v := (6386291 : Int64)) hx hb hown (ht _ zw_790) d_D_init_223 ?_
  refine va_last hx hb hK hP hD hS 1 0 rfl rfl (by unfold vp_in; decide) d_D_init_226 (fun H locs hP hD hS => ?_)
  have hP : va_P D vwCl ([(x0, .inr (6, fs)), (q, .inl (cq, 91, .inr (.inl (vp_updL (tbL nmL 31) (31 : Int32).toNatClampNeg (6386291 : Int64)))))]) H := hP
  have hD : va_D A ([(x0, .inr (6, fs)), (q, .inl (cq, 91, .inr (.inl (vp_updL (tbL nmL 31) (31 : Int32).toNatClampNeg (6386291 : Int64)))))]) := hD
  rw [tbL_s (k := 31) rfl rfl] at hP hD
  refine lv_dup hx hb d_D_init_227 rfl ?_
  refine lv_bipush (v := (32 : Int32)) hx hb d_D_init_228 (by decide) ?_
  refine lv_ldc2 (v := (1819307370 : Int64)) hx hb hown (ht _ zw_791) d_D_init_230 ?_
  refine va_last hx hb hK hP hD hS 1 0 rfl rfl (by unfold vp_in; decide) d_D_init_233 (fun H locs hP hD hS => ?_)
  have hP : va_P D vwCl ([(x0, .inr (6, fs)), (q, .inl (cq, 91, .inr (.inl (vp_updL (tbL nmL 32) (32 : Int32).toNatClampNeg (1819307370 : Int64)))))]) H := hP
  have hD : va_D A ([(x0, .inr (6, fs)), (q, .inl (cq, 91, .inr (.inl (vp_updL (tbL nmL 32) (32 : Int32).toNatClampNeg (1819307370 : Int64)))))]) := hD
  rw [tbL_s (k := 32) rfl rfl] at hP hD
  refine lv_dup hx hb d_D_init_234 rfl ?_
  refine lv_bipush (v := (33 : Int32)) hx hb d_D_init_235 (by decide) ?_
  refine lv_ldc2 (v := (1702257011 : Int64)) hx hb hown (ht _ zw_792) d_D_init_237 ?_
  refine va_last hx hb hK hP hD hS 1 0 rfl rfl (by unfold vp_in; decide) d_D_init_240 (fun H locs hP hD hS => ?_)
  have hP : va_P D vwCl ([(x0, .inr (6, fs)), (q, .inl (cq, 91, .inr (.inl (vp_updL (tbL nmL 33) (33 : Int32).toNatClampNeg (1702257011 : Int64)))))]) H := hP
  have hD : va_D A ([(x0, .inr (6, fs)), (q, .inl (cq, 91, .inr (.inl (vp_updL (tbL nmL 33) (33 : Int32).toNatClampNeg (1702257011 : Int64)))))]) := hD
  rw [tbL_s (k := 33) rfl rfl] at hP hD
  refine lv_dup hx hb d_D_init_241 rfl ?_
  refine lv_bipush (v := (34 : Int32)) hx hb d_D_init_242 (by decide) ?_
  refine lv_ldc2 (v := (28554795668432242 : Int64)) hx hb hown (ht _ zw_793) d_D_init_244 ?_
  refine va_last hx hb hK hP hD hS 1 0 rfl rfl (by unfold vp_in; decide) d_D_init_247 (fun H locs hP hD hS => ?_)
  have hP : va_P D vwCl ([(x0, .inr (6, fs)), (q, .inl (cq, 91, .inr (.inl (vp_updL (tbL nmL 34) (34 : Int32).toNatClampNeg (28554795668432242 : Int64)))))]) H := hP
  have hD : va_D A ([(x0, .inr (6, fs)), (q, .inl (cq, 91, .inr (.inl (vp_updL (tbL nmL 34) (34 : Int32).toNatClampNeg (28554795668432242 : Int64)))))]) := hD
  rw [tbL_s (k := 34) rfl rfl] at hP hD
  refine lv_dup hx hb d_D_init_248 rfl ?_
  refine lv_bipush (v := (35 : Int32)) hx hb d_D_init_249 (by decide) ?_
  refine lv_ldc2 (v := (452724024691 : Int64)) hx hb hown (ht _ zw_794) d_D_init_251 ?_
  refine va_last hx hb hK hP hD hS 1 0 rfl rfl (by unfold vp_in; decide) d_D_init_254 (fun H locs hP hD hS => ?_)
  have hP : va_P D vwCl ([(x0, .inr (6, fs)), (q, .inl (cq, 91, .inr (.inl (vp_updL (tbL nmL 35) (35 : Int32).toNatClampNeg (452724024691 : Int64)))))]) H := hP
  have hD : va_D A ([(x0, .inr (6, fs)), (q, .inl (cq, 91, .inr (.inl (vp_updL (tbL nmL 35) (35 : Int32).toNatClampNeg (452724024691 : Int64)))))]) := hD
  rw [tbL_s (k := 35) rfl rfl] at hP hD
  refine lv_dup hx hb d_D_init_255 rfl ?_
  refine lv_bipush (v := (36 : Int32)) hx hb d_D_init_256 (by decide) ?_
  refine lv_ldc2 (v := (7955570 : Int64)) hx hb hown (ht _ zw_795) d_D_init_258 ?_
  refine va_last hx hb hK hP hD hS 1 0 rfl rfl (by unfold vp_in; decide) d_D_init_261 (fun H locs hP hD hS => ?_)
  have hP : va_P D vwCl ([(x0, .inr (6, fs)), (q, .inl (cq, 91, .inr (.inl (vp_updL (tbL nmL 36) (36 : Int32).toNatClampNeg (7955570 : Int64)))))]) H := hP
  have hD : va_D A ([(x0, .inr (6, fs)), (q, .inl (cq, 91, .inr (.inl (vp_updL (tbL nmL 36) (36 : Int32).toNatClampNeg (7955570 : Int64)))))]) := hD
  rw [tbL_s (k := 36) rfl rfl] at hP hD
  refine lv_dup hx hb d_D_init_262 rfl ?_
  refine lv_bipush (v := (37 : Int32)) hx hb d_D_init_263 (by decide) ?_
  refine lv_ldc2 (v := (491563017330 : Int64)) hx hb hown (ht _ zw_796) d_D_init_265 ?_
  refine va_last hx hb hK hP hD hS 1 0 rfl rfl (by unfold vp_in; decide) d_D_init_268 (fun H locs hP hD hS => ?_)
  have hP : va_P D vwCl ([(x0, .inr (6, fs)), (q, .inl (cq, 91, .inr (.inl (vp_updL (tbL nmL 37) (37 : Int32).toNatClampNeg (491563017330 : Int64)))))]) H := hP
  have hD : va_D A ([(x0, .inr (6, fs)), (q, .inl (cq, 91, .inr (.inl (vp_updL (tbL nmL 37) (37 : Int32).toNatClampNeg (491563017330 : Int64)))))]) := hD
  rw [tbL_s (k := 37) rfl rfl] at hP hD
  refine lv_dup hx hb d_D_init_269 rfl ?_
  refine lv_bipush (v := (38 : Int32)) hx hb d_D_init_270 (by decide) ?_
  refine lv_ldc2 (v := (469920867442 : Int64)) hx hb hown (ht _ zw_797) d_D_init_272 ?_
  refine va_last hx hb hK hP hD hS 1 0 rfl rfl (by unfold vp_in; decide) d_D_init_275 (fun H locs hP hD hS => ?_)
  have hP : va_P D vwCl ([(x0, .inr (6, fs)), (q, .inl (cq, 91, .inr (.inl (vp_updL (tbL nmL 38) (38 : Int32).toNatClampNeg (469920867442 : Int64)))))]) H := hP
  have hD : va_D A ([(x0, .inr (6, fs)), (q, .inl (cq, 91, .inr (.inl (vp_updL (tbL nmL 38) (38 : Int32).toNatClampNeg (469920867442 : Int64)))))]) := hD
  rw [tbL_s (k := 38) rfl rfl] at hP hD
  exact kk H locs hP hD hS
set_option maxHeartbeats 4000000 in
set_option maxRecDepth 100000 in
theorem ch_D_init_276 {p : Program} {l : Launch} {e : Env} {R : Room} {s : State} {m : MethodId} {args : Array Value} {below : List Frame} {meth : Method} {c : Code} {H : Heap} {locs : List Loc} {cells slots : Nat} {Q : State → Prop} {ls : Array Slot} {D : va_G} {A : Nat → Prop} {fs : List Value} {x0 : Nat} {q : Nat} {cq : ClassId} {rest : List Value} (hx : p.tables.exec = Jvm.exec) (hb : c.code = c_D_init) (hown : s.vm.findClass "WindowMachineModel" = some m.cls) (ht : ∀ w9 ∈ zT, w9.before args s = true) (hK : va_K D vwCl [(cq, .long)] s) (hP : va_P D vwCl [(x0, .inr (6, fs)), (q, .inl (cq, 91, .inr (.inl (tbL nmL 39))))] H) (hD : va_D A [(x0, .inr (6, fs)), (q, .inl (cq, 91, .inr (.inl (tbL nmL 39))))]) (hS : va_S A s.heap H locs)
    (kk : ∀ (H : Heap) (locs : List Loc), va_P D vwCl [(x0, .inr (6, fs)), (q, .inl (cq, 91, .inr (.inl (tbL nmL 52))))] H → va_D A [(x0, .inr (6, fs)), (q, .inl (cq, 91, .inr (.inl (tbL nmL 52))))] → va_S A s.heap H locs → W p l e R s m args below meth c H locs cells slots Q (F0 m 367 ls (.ref q :: rest))) : W p l e R s m args below meth c H locs cells slots Q (F0 m 276 ls (.ref q :: rest)) := by
  refine lv_dup hx hb d_D_init_276 rfl ?_
  refine lv_bipush (v := (39 : Int32)) hx hb d_D_init_277 (by decide) ?_
  refine lv_ldc2 (v := (491278066802 : Int64)) hx hb hown (ht _ zw_798) d_D_init_279 ?_
  refine va_last hx hb hK hP hD hS 1 0 rfl rfl (by unfold vp_in; decide) d_D_init_282 (fun H locs hP hD hS => ?_)
  have hP : va_P D vwCl ([(x0, .inr (6, fs)), (q, .inl (cq, 91, .inr (.inl (vp_updL (tbL nmL 39) (39 : Int32).toNatClampNeg (491278066802 : Int64)))))]) H := hP
  have hD : va_D A ([(x0, .inr (6, fs)), (q, .inl (cq, 91, .inr (.inl (vp_updL (tbL nmL 39) (39 : Int32).toNatClampNeg (491278066802 : Int64)))))]) := hD
  rw [tbL_s (k := 39) rfl rfl] at hP hD
  refine lv_dup hx hb d_D_init_283 rfl ?_
  refine lv_bipush (v := (40 : Int32)) hx hb d_D_init_284 (by decide) ?_
  refine lv_ldc2 (v := (7959159 : Int64)) hx hb hown (ht _ zw_799) d_D_init_286 ?_
  refine va_last hx hb hK hP hD hS 1 0 rfl rfl (by unfold vp_in; decide) d_D_init_289 (fun H locs hP hD hS => ?_)
  have hP : va_P D vwCl ([(x0, .inr (6, fs)), (q, .inl (cq, 91, .inr (.inl (vp_updL (tbL nmL 40) (40 : Int32).toNatClampNeg (7959159 : Int64)))))]) H := hP
  have hD : va_D A ([(x0, .inr (6, fs)), (q, .inl (cq, 91, .inr (.inl (vp_updL (tbL nmL 40) (40 : Int32).toNatClampNeg (7959159 : Int64)))))]) := hD
  rw [tbL_s (k := 40) rfl rfl] at hP hD
  refine lv_dup hx hb d_D_init_290 rfl ?_
  refine lv_bipush (v := (41 : Int32)) hx hb d_D_init_291 (by decide) ?_
  refine lv_ldc2 (v := (491563020919 : Int64)) hx hb hown (ht _ zw_800) d_D_init_293 ?_
  refine va_last hx hb hK hP hD hS 1 0 rfl rfl (by unfold vp_in; decide) d_D_init_296 (fun H locs hP hD hS => ?_)
  have hP : va_P D vwCl ([(x0, .inr (6, fs)), (q, .inl (cq, 91, .inr (.inl (vp_updL (tbL nmL 41) (41 : Int32).toNatClampNeg (491563020919 : Int64)))))]) H := hP
  have hD : va_D A ([(x0, .inr (6, fs)), (q, .inl (cq, 91, .inr (.inl (vp_updL (tbL nmL 41) (41 : Int32).toNatClampNeg (491563020919 : Int64)))))]) := hD
  rw [tbL_s (k := 41) rfl rfl] at hP hD
  refine lv_dup hx hb d_D_init_297 rfl ?_
  refine lv_bipush (v := (42 : Int32)) hx hb d_D_init_298 (by decide) ?_
  refine lv_ldc2 (v := (469920871031 : Int64)) hx hb hown (ht _ zw_801) d_D_init_300 ?_
  refine va_last hx hb hK hP hD hS 1 0 rfl rfl (by unfold vp_in; decide) d_D_init_303 (fun H locs hP hD hS => ?_)
  have hP : va_P D vwCl ([(x0, .inr (6, fs)), (q, .inl (cq, 91, .inr (.inl (vp_updL (tbL nmL 42) (42 : Int32).toNatClampNeg (469920871031 : Int64)))))]) H := hP
  have hD : va_D A ([(x0, .inr (6, fs)), (q, .inl (cq, 91, .inr (.inl (vp_updL (tbL nmL 42) (42 : Int32).toNatClampNeg (469920871031 : Int64)))))]) := hD
  rw [tbL_s (k := 42) rfl rfl] at hP hD
  refine lv_dup hx hb d_D_init_304 rfl ?_
  refine lv_bipush (v := (43 : Int32)) hx hb d_D_init_305 (by decide) ?_
  refine lv_ldc2 (v := (491278070391 : Int64)) hx hb hown (ht _ zw_802) d_D_init_307 ?_
  refine va_last hx hb hK hP hD hS 1 0 rfl rfl (by unfold vp_in; decide) d_D_init_310 (fun H locs hP hD hS => ?_)
  have hP : va_P D vwCl ([(x0, .inr (6, fs)), (q, .inl (cq, 91, .inr (.inl (vp_updL (tbL nmL 43) (43 : Int32).toNatClampNeg (491278070391 : Int64)))))]) H := hP
  have hD : va_D A ([(x0, .inr (6, fs)), (q, .inl (cq, 91, .inr (.inl (vp_updL (tbL nmL 43) (43 : Int32).toNatClampNeg (491278070391 : Int64)))))]) := hD
  rw [tbL_s (k := 43) rfl rfl] at hP hD
  refine lv_dup hx hb d_D_init_311 rfl ?_
  refine lv_bipush (v := (44 : Int32)) hx hb d_D_init_312 (by decide) ?_
  refine lv_ldc2 (v := (1953785202 : Int64)) hx hb hown (ht _ zw_803) d_D_init_314 ?_
  refine va_last hx hb hK hP hD hS 1 0 rfl rfl (by unfold vp_in; decide) d_D_init_317 (fun H locs hP hD hS => ?_)
  have hP : va_P D vwCl ([(x0, .inr (6, fs)), (q, .inl (cq, 91, .inr (.inl (vp_updL (tbL nmL 44) (44 : Int32).toNatClampNeg (1953785202 : Int64)))))]) H := hP
  have hD : va_D A ([(x0, .inr (6, fs)), (q, .inl (cq, 91, .inr (.inl (vp_updL (tbL nmL 44) (44 : Int32).toNatClampNeg (1953785202 : Int64)))))]) := hD
  rw [tbL_s (k := 44) rfl rfl] at hP hD
  refine lv_dup hx hb d_D_init_318 rfl ?_
  refine lv_bipush (v := (45 : Int32)) hx hb d_D_init_319 (by decide) ?_
  refine lv_ldc2 (v := (1819042147 : Int64)) hx hb hown (ht _ zw_804) d_D_init_321 ?_
  refine va_last hx hb hK hP hD hS 1 0 rfl rfl (by unfold vp_in; decide) d_D_init_324 (fun H locs hP hD hS => ?_)
  have hP : va_P D vwCl ([(x0, .inr (6, fs)), (q, .inl (cq, 91, .inr (.inl (vp_updL (tbL nmL 45) (45 : Int32).toNatClampNeg (1819042147 : Int64)))))]) H := hP
  have hD : va_D A ([(x0, .inr (6, fs)), (q, .inl (cq, 91, .inr (.inl (vp_updL (tbL nmL 45) (45 : Int32).toNatClampNeg (1819042147 : Int64)))))]) := hD
  rw [tbL_s (k := 45) rfl rfl] at hP hD
  refine lv_dup hx hb d_D_init_325 rfl ?_
  refine lv_bipush (v := (46 : Int32)) hx hb d_D_init_326 (by decide) ?_
  refine lv_ldc2 (v := (28258 : Int64)) hx hb hown (ht _ zw_805) d_D_init_328 ?_
  refine va_last hx hb hK hP hD hS 1 0 rfl rfl (by unfold vp_in; decide) d_D_init_331 (fun H locs hP hD hS => ?_)
  have hP : va_P D vwCl ([(x0, .inr (6, fs)), (q, .inl (cq, 91, .inr (.inl (vp_updL (tbL nmL 46) (46 : Int32).toNatClampNeg (28258 : Int64)))))]) H := hP
  have hD : va_D A ([(x0, .inr (6, fs)), (q, .inl (cq, 91, .inr (.inl (vp_updL (tbL nmL 46) (46 : Int32).toNatClampNeg (28258 : Int64)))))]) := hD
  rw [tbL_s (k := 46) rfl rfl] at hP hD
  refine lv_dup hx hb d_D_init_332 rfl ?_
  refine lv_bipush (v := (47 : Int32)) hx hb d_D_init_333 (by decide) ?_
  refine lv_ldc2 (v := (28276 : Int64)) hx hb hown (ht _ zw_806) d_D_init_335 ?_
  refine va_last hx hb hK hP hD hS 1 0 rfl rfl (by unfold vp_in; decide) d_D_init_338 (fun H locs hP hD hS => ?_)
  have hP : va_P D vwCl ([(x0, .inr (6, fs)), (q, .inl (cq, 91, .inr (.inl (vp_updL (tbL nmL 47) (47 : Int32).toNatClampNeg (28276 : Int64)))))]) H := hP
  have hD : va_D A ([(x0, .inr (6, fs)), (q, .inl (cq, 91, .inr (.inl (vp_updL (tbL nmL 47) (47 : Int32).toNatClampNeg (28276 : Int64)))))]) := hD
  rw [tbL_s (k := 47) rfl rfl] at hP hD
  refine lv_dup hx hb d_D_init_339 rfl ?_
  refine lv_bipush (v := (48 : Int32)) hx hb d_D_init_340 (by decide) ?_
  refine lv_ldc2 (v := (25954 : Int64)) hx hb hown (ht _ zw_807) d_D_init_342 ?_
  refine va_last hx hb hK hP hD hS 1 0 rfl rfl (by unfold vp_in; decide) d_D_init_345 (fun H locs hP hD hS => ?_)
  have hP : va_P D vwCl ([(x0, .inr (6, fs)), (q, .inl (cq, 91, .inr (.inl (vp_updL (tbL nmL 48) (48 : Int32).toNatClampNeg (25954 : Int64)))))]) H := hP
  have hD : va_D A ([(x0, .inr (6, fs)), (q, .inl (cq, 91, .inr (.inl (vp_updL (tbL nmL 48) (48 : Int32).toNatClampNeg (25954 : Int64)))))]) := hD
  rw [tbL_s (k := 48) rfl rfl] at hP hD
  refine lv_dup hx hb d_D_init_346 rfl ?_
  refine lv_bipush (v := (49 : Int32)) hx hb d_D_init_347 (by decide) ?_
  refine lv_ldc2 (v := (25972 : Int64)) hx hb hown (ht _ zw_808) d_D_init_349 ?_
  refine va_last hx hb hK hP hD hS 1 0 rfl rfl (by unfold vp_in; decide) d_D_init_352 (fun H locs hP hD hS => ?_)
  have hP : va_P D vwCl ([(x0, .inr (6, fs)), (q, .inl (cq, 91, .inr (.inl (vp_updL (tbL nmL 49) (49 : Int32).toNatClampNeg (25972 : Int64)))))]) H := hP
  have hD : va_D A ([(x0, .inr (6, fs)), (q, .inl (cq, 91, .inr (.inl (vp_updL (tbL nmL 49) (49 : Int32).toNatClampNeg (25972 : Int64)))))]) := hD
  rw [tbL_s (k := 49) rfl rfl] at hP hD
  refine lv_dup hx hb d_D_init_353 rfl ?_
  refine lv_bipush (v := (50 : Int32)) hx hb d_D_init_354 (by decide) ?_
  refine lv_ldc2 (v := (6646882 : Int64)) hx hb hown (ht _ zw_809) d_D_init_356 ?_
  refine va_last hx hb hK hP hD hS 1 0 rfl rfl (by unfold vp_in; decide) d_D_init_359 (fun H locs hP hD hS => ?_)
  have hP : va_P D vwCl ([(x0, .inr (6, fs)), (q, .inl (cq, 91, .inr (.inl (vp_updL (tbL nmL 50) (50 : Int32).toNatClampNeg (6646882 : Int64)))))]) H := hP
  have hD : va_D A ([(x0, .inr (6, fs)), (q, .inl (cq, 91, .inr (.inl (vp_updL (tbL nmL 50) (50 : Int32).toNatClampNeg (6646882 : Int64)))))]) := hD
  rw [tbL_s (k := 50) rfl rfl] at hP hD
  refine lv_dup hx hb d_D_init_360 rfl ?_
  refine lv_bipush (v := (51 : Int32)) hx hb d_D_init_361 (by decide) ?_
  refine lv_ldc2 (v := (6646900 : Int64)) hx hb hown (ht _ zw_810) d_D_init_363 ?_
  refine va_last hx hb hK hP hD hS 1 0 rfl rfl (by unfold vp_in; decide) d_D_init_366 (fun H locs hP hD hS => ?_)
  have hP : va_P D vwCl ([(x0, .inr (6, fs)), (q, .inl (cq, 91, .inr (.inl (vp_updL (tbL nmL 51) (51 : Int32).toNatClampNeg (6646900 : Int64)))))]) H := hP
  have hD : va_D A ([(x0, .inr (6, fs)), (q, .inl (cq, 91, .inr (.inl (vp_updL (tbL nmL 51) (51 : Int32).toNatClampNeg (6646900 : Int64)))))]) := hD
  rw [tbL_s (k := 51) rfl rfl] at hP hD
  exact kk H locs hP hD hS
set_option maxHeartbeats 4000000 in
set_option maxRecDepth 100000 in
theorem ch_D_init_367 {p : Program} {l : Launch} {e : Env} {R : Room} {s : State} {m : MethodId} {args : Array Value} {below : List Frame} {meth : Method} {c : Code} {H : Heap} {locs : List Loc} {cells slots : Nat} {Q : State → Prop} {ls : Array Slot} {D : va_G} {A : Nat → Prop} {fs : List Value} {x0 : Nat} {q : Nat} {cq : ClassId} {rest : List Value} (hx : p.tables.exec = Jvm.exec) (hb : c.code = c_D_init) (hown : s.vm.findClass "WindowMachineModel" = some m.cls) (ht : ∀ w9 ∈ zT, w9.before args s = true) (hK : va_K D vwCl [(cq, .long)] s) (hP : va_P D vwCl [(x0, .inr (6, fs)), (q, .inl (cq, 91, .inr (.inl (tbL nmL 52))))] H) (hD : va_D A [(x0, .inr (6, fs)), (q, .inl (cq, 91, .inr (.inl (tbL nmL 52))))]) (hS : va_S A s.heap H locs)
    (kk : ∀ (H : Heap) (locs : List Loc), va_P D vwCl [(x0, .inr (6, fs)), (q, .inl (cq, 91, .inr (.inl (tbL nmL 65))))] H → va_D A [(x0, .inr (6, fs)), (q, .inl (cq, 91, .inr (.inl (tbL nmL 65))))] → va_S A s.heap H locs → W p l e R s m args below meth c H locs cells slots Q (F0 m 458 ls (.ref q :: rest))) : W p l e R s m args below meth c H locs cells slots Q (F0 m 367 ls (.ref q :: rest)) := by
  refine lv_dup hx hb d_D_init_367 rfl ?_
  refine lv_bipush (v := (52 : Int32)) hx hb d_D_init_368 (by decide) ?_
  refine lv_ldc2 (v := (27746 : Int64)) hx hb hown (ht _ zw_811) d_D_init_370 ?_
  refine va_last hx hb hK hP hD hS 1 0 rfl rfl (by unfold vp_in; decide) d_D_init_373 (fun H locs hP hD hS => ?_)
  have hP : va_P D vwCl ([(x0, .inr (6, fs)), (q, .inl (cq, 91, .inr (.inl (vp_updL (tbL nmL 52) (52 : Int32).toNatClampNeg (27746 : Int64)))))]) H := hP
  have hD : va_D A ([(x0, .inr (6, fs)), (q, .inl (cq, 91, .inr (.inl (vp_updL (tbL nmL 52) (52 : Int32).toNatClampNeg (27746 : Int64)))))]) := hD
  rw [tbL_s (k := 52) rfl rfl] at hP hD
  refine lv_dup hx hb d_D_init_374 rfl ?_
  refine lv_bipush (v := (53 : Int32)) hx hb d_D_init_375 (by decide) ?_
  refine lv_ldc2 (v := (27764 : Int64)) hx hb hown (ht _ zw_812) d_D_init_377 ?_
  refine va_last hx hb hK hP hD hS 1 0 rfl rfl (by unfold vp_in; decide) d_D_init_380 (fun H locs hP hD hS => ?_)
  have hP : va_P D vwCl ([(x0, .inr (6, fs)), (q, .inl (cq, 91, .inr (.inl (vp_updL (tbL nmL 53) (53 : Int32).toNatClampNeg (27764 : Int64)))))]) H := hP
  have hD : va_D A ([(x0, .inr (6, fs)), (q, .inl (cq, 91, .inr (.inl (vp_updL (tbL nmL 53) (53 : Int32).toNatClampNeg (27764 : Int64)))))]) := hD
  rw [tbL_s (k := 53) rfl rfl] at hP hD
  refine lv_dup hx hb d_D_init_381 rfl ?_
  refine lv_bipush (v := (54 : Int32)) hx hb d_D_init_382 (by decide) ?_
  refine lv_ldc2 (v := (1969581154 : Int64)) hx hb hown (ht _ zw_813) d_D_init_384 ?_
  refine va_last hx hb hK hP hD hS 1 0 rfl rfl (by unfold vp_in; decide) d_D_init_387 (fun H locs hP hD hS => ?_)
  have hP : va_P D vwCl ([(x0, .inr (6, fs)), (q, .inl (cq, 91, .inr (.inl (vp_updL (tbL nmL 54) (54 : Int32).toNatClampNeg (1969581154 : Int64)))))]) H := hP
  have hD : va_D A ([(x0, .inr (6, fs)), (q, .inl (cq, 91, .inr (.inl (vp_updL (tbL nmL 54) (54 : Int32).toNatClampNeg (1969581154 : Int64)))))]) := hD
  rw [tbL_s (k := 54) rfl rfl] at hP hD
  refine lv_dup hx hb d_D_init_388 rfl ?_
  refine lv_bipush (v := (55 : Int32)) hx hb d_D_init_389 (by decide) ?_
  refine lv_ldc2 (v := (1969581172 : Int64)) hx hb hown (ht _ zw_814) d_D_init_391 ?_
  refine va_last hx hb hK hP hD hS 1 0 rfl rfl (by unfold vp_in; decide) d_D_init_394 (fun H locs hP hD hS => ?_)
  have hP : va_P D vwCl ([(x0, .inr (6, fs)), (q, .inl (cq, 91, .inr (.inl (vp_updL (tbL nmL 55) (55 : Int32).toNatClampNeg (1969581172 : Int64)))))]) H := hP
  have hD : va_D A ([(x0, .inr (6, fs)), (q, .inl (cq, 91, .inr (.inl (vp_updL (tbL nmL 55) (55 : Int32).toNatClampNeg (1969581172 : Int64)))))]) := hD
  rw [tbL_s (k := 55) rfl rfl] at hP hD
  refine lv_dup hx hb d_D_init_395 rfl ?_
  refine lv_bipush (v := (56 : Int32)) hx hb d_D_init_396 (by decide) ?_
  refine lv_ldc2 (v := (7562082 : Int64)) hx hb hown (ht _ zw_815) d_D_init_398 ?_
  refine va_last hx hb hK hP hD hS 1 0 rfl rfl (by unfold vp_in; decide) d_D_init_401 (fun H locs hP hD hS => ?_)
  have hP : va_P D vwCl ([(x0, .inr (6, fs)), (q, .inl (cq, 91, .inr (.inl (vp_updL (tbL nmL 56) (56 : Int32).toNatClampNeg (7562082 : Int64)))))]) H := hP
  have hD : va_D A ([(x0, .inr (6, fs)), (q, .inl (cq, 91, .inr (.inl (vp_updL (tbL nmL 56) (56 : Int32).toNatClampNeg (7562082 : Int64)))))]) := hD
  rw [tbL_s (k := 56) rfl rfl] at hP hD
  refine lv_dup hx hb d_D_init_402 rfl ?_
  refine lv_bipush (v := (57 : Int32)) hx hb d_D_init_403 (by decide) ?_
  refine lv_ldc2 (v := (7562100 : Int64)) hx hb hown (ht _ zw_816) d_D_init_405 ?_
  refine va_last hx hb hK hP hD hS 1 0 rfl rfl (by unfold vp_in; decide) d_D_init_408 (fun H locs hP hD hS => ?_)
  have hP : va_P D vwCl ([(x0, .inr (6, fs)), (q, .inl (cq, 91, .inr (.inl (vp_updL (tbL nmL 57) (57 : Int32).toNatClampNeg (7562100 : Int64)))))]) H := hP
  have hD : va_D A ([(x0, .inr (6, fs)), (q, .inl (cq, 91, .inr (.inl (vp_updL (tbL nmL 57) (57 : Int32).toNatClampNeg (7562100 : Int64)))))]) := hD
  rw [tbL_s (k := 57) rfl rfl] at hP hD
  refine lv_dup hx hb d_D_init_409 rfl ?_
  refine lv_bipush (v := (58 : Int32)) hx hb d_D_init_410 (by decide) ?_
  refine lv_ldc2 (v := (1734700642 : Int64)) hx hb hown (ht _ zw_817) d_D_init_412 ?_
  refine va_last hx hb hK hP hD hS 1 0 rfl rfl (by unfold vp_in; decide) d_D_init_415 (fun H locs hP hD hS => ?_)
  have hP : va_P D vwCl ([(x0, .inr (6, fs)), (q, .inl (cq, 91, .inr (.inl (vp_updL (tbL nmL 58) (58 : Int32).toNatClampNeg (1734700642 : Int64)))))]) H := hP
  have hD : va_D A ([(x0, .inr (6, fs)), (q, .inl (cq, 91, .inr (.inl (vp_updL (tbL nmL 58) (58 : Int32).toNatClampNeg (1734700642 : Int64)))))]) := hD
  rw [tbL_s (k := 58) rfl rfl] at hP hD
  refine lv_dup hx hb d_D_init_416 rfl ?_
  refine lv_bipush (v := (59 : Int32)) hx hb d_D_init_417 (by decide) ?_
  refine lv_ldc2 (v := (1734700660 : Int64)) hx hb hown (ht _ zw_818) d_D_init_419 ?_
  refine va_last hx hb hK hP hD hS 1 0 rfl rfl (by unfold vp_in; decide) d_D_init_422 (fun H locs hP hD hS => ?_)
  have hP : va_P D vwCl ([(x0, .inr (6, fs)), (q, .inl (cq, 91, .inr (.inl (vp_updL (tbL nmL 59) (59 : Int32).toNatClampNeg (1734700660 : Int64)))))]) H := hP
  have hD : va_D A ([(x0, .inr (6, fs)), (q, .inl (cq, 91, .inr (.inl (vp_updL (tbL nmL 59) (59 : Int32).toNatClampNeg (1734700660 : Int64)))))]) := hD
  rw [tbL_s (k := 59) rfl rfl] at hP hD
  refine lv_dup hx hb d_D_init_423 rfl ?_
  refine lv_bipush (v := (60 : Int32)) hx hb d_D_init_424 (by decide) ?_
  refine lv_ldc2 (v := (7566946 : Int64)) hx hb hown (ht _ zw_819) d_D_init_426 ?_
  refine va_last hx hb hK hP hD hS 1 0 rfl rfl (by unfold vp_in; decide) d_D_init_429 (fun H locs hP hD hS => ?_)
  have hP : va_P D vwCl ([(x0, .inr (6, fs)), (q, .inl (cq, 91, .inr (.inl (vp_updL (tbL nmL 60) (60 : Int32).toNatClampNeg (7566946 : Int64)))))]) H := hP
  have hD : va_D A ([(x0, .inr (6, fs)), (q, .inl (cq, 91, .inr (.inl (vp_updL (tbL nmL 60) (60 : Int32).toNatClampNeg (7566946 : Int64)))))]) := hD
  rw [tbL_s (k := 60) rfl rfl] at hP hD
  refine lv_dup hx hb d_D_init_430 rfl ?_
  refine lv_bipush (v := (61 : Int32)) hx hb d_D_init_431 (by decide) ?_
  refine lv_ldc2 (v := (7566964 : Int64)) hx hb hown (ht _ zw_820) d_D_init_433 ?_
  refine va_last hx hb hK hP hD hS 1 0 rfl rfl (by unfold vp_in; decide) d_D_init_436 (fun H locs hP hD hS => ?_)
  have hP : va_P D vwCl ([(x0, .inr (6, fs)), (q, .inl (cq, 91, .inr (.inl (vp_updL (tbL nmL 61) (61 : Int32).toNatClampNeg (7566964 : Int64)))))]) H := hP
  have hD : va_D A ([(x0, .inr (6, fs)), (q, .inl (cq, 91, .inr (.inl (vp_updL (tbL nmL 61) (61 : Int32).toNatClampNeg (7566964 : Int64)))))]) := hD
  rw [tbL_s (k := 61) rfl rfl] at hP hD
  refine lv_dup hx hb d_D_init_437 rfl ?_
  refine lv_bipush (v := (62 : Int32)) hx hb d_D_init_438 (by decide) ?_
  refine lv_ldc2 (v := (24930 : Int64)) hx hb hown (ht _ zw_821) d_D_init_440 ?_
  refine va_last hx hb hK hP hD hS 1 0 rfl rfl (by unfold vp_in; decide) d_D_init_443 (fun H locs hP hD hS => ?_)
  have hP : va_P D vwCl ([(x0, .inr (6, fs)), (q, .inl (cq, 91, .inr (.inl (vp_updL (tbL nmL 62) (62 : Int32).toNatClampNeg (24930 : Int64)))))]) H := hP
  have hD : va_D A ([(x0, .inr (6, fs)), (q, .inl (cq, 91, .inr (.inl (vp_updL (tbL nmL 62) (62 : Int32).toNatClampNeg (24930 : Int64)))))]) := hD
  rw [tbL_s (k := 62) rfl rfl] at hP hD
  refine lv_dup hx hb d_D_init_444 rfl ?_
  refine lv_bipush (v := (63 : Int32)) hx hb d_D_init_445 (by decide) ?_
  refine lv_ldc2 (v := (24948 : Int64)) hx hb hown (ht _ zw_822) d_D_init_447 ?_
  refine va_last hx hb hK hP hD hS 1 0 rfl rfl (by unfold vp_in; decide) d_D_init_450 (fun H locs hP hD hS => ?_)
  have hP : va_P D vwCl ([(x0, .inr (6, fs)), (q, .inl (cq, 91, .inr (.inl (vp_updL (tbL nmL 63) (63 : Int32).toNatClampNeg (24948 : Int64)))))]) H := hP
  have hD : va_D A ([(x0, .inr (6, fs)), (q, .inl (cq, 91, .inr (.inl (vp_updL (tbL nmL 63) (63 : Int32).toNatClampNeg (24948 : Int64)))))]) := hD
  rw [tbL_s (k := 63) rfl rfl] at hP hD
  refine lv_dup hx hb d_D_init_451 rfl ?_
  refine lv_bipush (v := (64 : Int32)) hx hb d_D_init_452 (by decide) ?_
  refine lv_ldc2 (v := (6647394 : Int64)) hx hb hown (ht _ zw_823) d_D_init_454 ?_
  refine va_last hx hb hK hP hD hS 1 0 rfl rfl (by unfold vp_in; decide) d_D_init_457 (fun H locs hP hD hS => ?_)
  have hP : va_P D vwCl ([(x0, .inr (6, fs)), (q, .inl (cq, 91, .inr (.inl (vp_updL (tbL nmL 64) (64 : Int32).toNatClampNeg (6647394 : Int64)))))]) H := hP
  have hD : va_D A ([(x0, .inr (6, fs)), (q, .inl (cq, 91, .inr (.inl (vp_updL (tbL nmL 64) (64 : Int32).toNatClampNeg (6647394 : Int64)))))]) := hD
  rw [tbL_s (k := 64) rfl rfl] at hP hD
  exact kk H locs hP hD hS
set_option maxHeartbeats 4000000 in
set_option maxRecDepth 100000 in
theorem ch_D_init_458 {p : Program} {l : Launch} {e : Env} {R : Room} {s : State} {m : MethodId} {args : Array Value} {below : List Frame} {meth : Method} {c : Code} {H : Heap} {locs : List Loc} {cells slots : Nat} {Q : State → Prop} {ls : Array Slot} {D : va_G} {A : Nat → Prop} {fs : List Value} {x0 : Nat} {q : Nat} {cq : ClassId} {rest : List Value} (hx : p.tables.exec = Jvm.exec) (hb : c.code = c_D_init) (hown : s.vm.findClass "WindowMachineModel" = some m.cls) (ht : ∀ w9 ∈ zT, w9.before args s = true) (hK : va_K D vwCl [(cq, .long)] s) (hP : va_P D vwCl [(x0, .inr (6, fs)), (q, .inl (cq, 91, .inr (.inl (tbL nmL 65))))] H) (hD : va_D A [(x0, .inr (6, fs)), (q, .inl (cq, 91, .inr (.inl (tbL nmL 65))))]) (hS : va_S A s.heap H locs)
    (kk : ∀ (H : Heap) (locs : List Loc), va_P D vwCl [(x0, .inr (6, fs)), (q, .inl (cq, 91, .inr (.inl (tbL nmL 78))))] H → va_D A [(x0, .inr (6, fs)), (q, .inl (cq, 91, .inr (.inl (tbL nmL 78))))] → va_S A s.heap H locs → W p l e R s m args below meth c H locs cells slots Q (F0 m 549 ls (.ref q :: rest))) : W p l e R s m args below meth c H locs cells slots Q (F0 m 458 ls (.ref q :: rest)) := by
  refine lv_dup hx hb d_D_init_458 rfl ?_
  refine lv_bipush (v := (65 : Int32)) hx hb d_D_init_459 (by decide) ?_
  refine lv_ldc2 (v := (6647412 : Int64)) hx hb hown (ht _ zw_824) d_D_init_461 ?_
  refine va_last hx hb hK hP hD hS 1 0 rfl rfl (by unfold vp_in; decide) d_D_init_464 (fun H locs hP hD hS => ?_)
  have hP : va_P D vwCl ([(x0, .inr (6, fs)), (q, .inl (cq, 91, .inr (.inl (vp_updL (tbL nmL 65) (65 : Int32).toNatClampNeg (6647412 : Int64)))))]) H := hP
  have hD : va_D A ([(x0, .inr (6, fs)), (q, .inl (cq, 91, .inr (.inl (vp_updL (tbL nmL 65) (65 : Int32).toNatClampNeg (6647412 : Int64)))))]) := hD
  rw [tbL_s (k := 65) rfl rfl] at hP hD
  refine lv_dup hx hb d_D_init_465 rfl ?_
  refine lv_bipush (v := (66 : Int32)) hx hb d_D_init_466 (by decide) ?_
  refine lv_ldc2 (v := (26466 : Int64)) hx hb hown (ht _ zw_825) d_D_init_468 ?_
  refine va_last hx hb hK hP hD hS 1 0 rfl rfl (by unfold vp_in; decide) d_D_init_471 (fun H locs hP hD hS => ?_)
  have hP : va_P D vwCl ([(x0, .inr (6, fs)), (q, .inl (cq, 91, .inr (.inl (vp_updL (tbL nmL 66) (66 : Int32).toNatClampNeg (26466 : Int64)))))]) H := hP
  have hD : va_D A ([(x0, .inr (6, fs)), (q, .inl (cq, 91, .inr (.inl (vp_updL (tbL nmL 66) (66 : Int32).toNatClampNeg (26466 : Int64)))))]) := hD
  rw [tbL_s (k := 66) rfl rfl] at hP hD
  refine lv_dup hx hb d_D_init_472 rfl ?_
  refine lv_bipush (v := (67 : Int32)) hx hb d_D_init_473 (by decide) ?_
  refine lv_ldc2 (v := (26484 : Int64)) hx hb hown (ht _ zw_826) d_D_init_475 ?_
  refine va_last hx hb hK hP hD hS 1 0 rfl rfl (by unfold vp_in; decide) d_D_init_478 (fun H locs hP hD hS => ?_)
  have hP : va_P D vwCl ([(x0, .inr (6, fs)), (q, .inl (cq, 91, .inr (.inl (vp_updL (tbL nmL 67) (67 : Int32).toNatClampNeg (26484 : Int64)))))]) H := hP
  have hD : va_D A ([(x0, .inr (6, fs)), (q, .inl (cq, 91, .inr (.inl (vp_updL (tbL nmL 67) (67 : Int32).toNatClampNeg (26484 : Int64)))))]) := hD
  rw [tbL_s (k := 67) rfl rfl] at hP hD
  refine lv_dup hx hb d_D_init_479 rfl ?_
  refine lv_bipush (v := (68 : Int32)) hx hb d_D_init_480 (by decide) ?_
  refine lv_ldc2 (v := (6645602 : Int64)) hx hb hown (ht _ zw_827) d_D_init_482 ?_
  refine va_last hx hb hK hP hD hS 1 0 rfl rfl (by unfold vp_in; decide) d_D_init_485 (fun H locs hP hD hS => ?_)
  have hP : va_P D vwCl ([(x0, .inr (6, fs)), (q, .inl (cq, 91, .inr (.inl (vp_updL (tbL nmL 68) (68 : Int32).toNatClampNeg (6645602 : Int64)))))]) H := hP
  have hD : va_D A ([(x0, .inr (6, fs)), (q, .inl (cq, 91, .inr (.inl (vp_updL (tbL nmL 68) (68 : Int32).toNatClampNeg (6645602 : Int64)))))]) := hD
  rw [tbL_s (k := 68) rfl rfl] at hP hD
  refine lv_dup hx hb d_D_init_486 rfl ?_
  refine lv_bipush (v := (69 : Int32)) hx hb d_D_init_487 (by decide) ?_
  refine lv_ldc2 (v := (6645620 : Int64)) hx hb hown (ht _ zw_828) d_D_init_489 ?_
  refine va_last hx hb hK hP hD hS 1 0 rfl rfl (by unfold vp_in; decide) d_D_init_492 (fun H locs hP hD hS => ?_)
  have hP : va_P D vwCl ([(x0, .inr (6, fs)), (q, .inl (cq, 91, .inr (.inl (vp_updL (tbL nmL 69) (69 : Int32).toNatClampNeg (6645620 : Int64)))))]) H := hP
  have hD : va_D A ([(x0, .inr (6, fs)), (q, .inl (cq, 91, .inr (.inl (vp_updL (tbL nmL 69) (69 : Int32).toNatClampNeg (6645620 : Int64)))))]) := hD
  rw [tbL_s (k := 69) rfl rfl] at hP hD
  refine lv_dup hx hb d_D_init_493 rfl ?_
  refine lv_bipush (v := (70 : Int32)) hx hb d_D_init_494 (by decide) ?_
  refine lv_ldc2 (v := (7694178 : Int64)) hx hb hown (ht _ zw_829) d_D_init_496 ?_
  refine va_last hx hb hK hP hD hS 1 0 rfl rfl (by unfold vp_in; decide) d_D_init_499 (fun H locs hP hD hS => ?_)
  have hP : va_P D vwCl ([(x0, .inr (6, fs)), (q, .inl (cq, 91, .inr (.inl (vp_updL (tbL nmL 70) (70 : Int32).toNatClampNeg (7694178 : Int64)))))]) H := hP
  have hD : va_D A ([(x0, .inr (6, fs)), (q, .inl (cq, 91, .inr (.inl (vp_updL (tbL nmL 70) (70 : Int32).toNatClampNeg (7694178 : Int64)))))]) := hD
  rw [tbL_s (k := 70) rfl rfl] at hP hD
  refine lv_dup hx hb d_D_init_500 rfl ?_
  refine lv_bipush (v := (71 : Int32)) hx hb d_D_init_501 (by decide) ?_
  refine lv_ldc2 (v := (7694196 : Int64)) hx hb hown (ht _ zw_830) d_D_init_503 ?_
  refine va_last hx hb hK hP hD hS 1 0 rfl rfl (by unfold vp_in; decide) d_D_init_506 (fun H locs hP hD hS => ?_)
  have hP : va_P D vwCl ([(x0, .inr (6, fs)), (q, .inl (cq, 91, .inr (.inl (vp_updL (tbL nmL 71) (71 : Int32).toNatClampNeg (7694196 : Int64)))))]) H := hP
  have hD : va_D A ([(x0, .inr (6, fs)), (q, .inl (cq, 91, .inr (.inl (vp_updL (tbL nmL 71) (71 : Int32).toNatClampNeg (7694196 : Int64)))))]) := hD
  rw [tbL_s (k := 71) rfl rfl] at hP hD
  refine lv_dup hx hb d_D_init_507 rfl ?_
  refine lv_bipush (v := (72 : Int32)) hx hb d_D_init_508 (by decide) ?_
  refine lv_ldc2 (v := (6513506 : Int64)) hx hb hown (ht _ zw_831) d_D_init_510 ?_
  refine va_last hx hb hK hP hD hS 1 0 rfl rfl (by unfold vp_in; decide) d_D_init_513 (fun H locs hP hD hS => ?_)
  have hP : va_P D vwCl ([(x0, .inr (6, fs)), (q, .inl (cq, 91, .inr (.inl (vp_updL (tbL nmL 72) (72 : Int32).toNatClampNeg (6513506 : Int64)))))]) H := hP
  have hD : va_D A ([(x0, .inr (6, fs)), (q, .inl (cq, 91, .inr (.inl (vp_updL (tbL nmL 72) (72 : Int32).toNatClampNeg (6513506 : Int64)))))]) := hD
  rw [tbL_s (k := 72) rfl rfl] at hP hD
  refine lv_dup hx hb d_D_init_514 rfl ?_
  refine lv_bipush (v := (73 : Int32)) hx hb d_D_init_515 (by decide) ?_
  refine lv_ldc2 (v := (6513524 : Int64)) hx hb hown (ht _ zw_832) d_D_init_517 ?_
  refine va_last hx hb hK hP hD hS 1 0 rfl rfl (by unfold vp_in; decide) d_D_init_520 (fun H locs hP hD hS => ?_)
  have hP : va_P D vwCl ([(x0, .inr (6, fs)), (q, .inl (cq, 91, .inr (.inl (vp_updL (tbL nmL 73) (73 : Int32).toNatClampNeg (6513524 : Int64)))))]) H := hP
  have hD : va_D A ([(x0, .inr (6, fs)), (q, .inl (cq, 91, .inr (.inl (vp_updL (tbL nmL 73) (73 : Int32).toNatClampNeg (6513524 : Int64)))))]) := hD
  rw [tbL_s (k := 73) rfl rfl] at hP hD
  refine lv_dup hx hb d_D_init_521 rfl ?_
  refine lv_bipush (v := (74 : Int32)) hx hb d_D_init_522 (by decide) ?_
  refine lv_ldc2 (v := (1936683106 : Int64)) hx hb hown (ht _ zw_833) d_D_init_524 ?_
  refine va_last hx hb hK hP hD hS 1 0 rfl rfl (by unfold vp_in; decide) d_D_init_527 (fun H locs hP hD hS => ?_)
  have hP : va_P D vwCl ([(x0, .inr (6, fs)), (q, .inl (cq, 91, .inr (.inl (vp_updL (tbL nmL 74) (74 : Int32).toNatClampNeg (1936683106 : Int64)))))]) H := hP
  have hD : va_D A ([(x0, .inr (6, fs)), (q, .inl (cq, 91, .inr (.inl (vp_updL (tbL nmL 74) (74 : Int32).toNatClampNeg (1936683106 : Int64)))))]) := hD
  rw [tbL_s (k := 74) rfl rfl] at hP hD
  refine lv_dup hx hb d_D_init_528 rfl ?_
  refine lv_bipush (v := (75 : Int32)) hx hb d_D_init_529 (by decide) ?_
  refine lv_ldc2 (v := (1936683124 : Int64)) hx hb hown (ht _ zw_834) d_D_init_531 ?_
  refine va_last hx hb hK hP hD hS 1 0 rfl rfl (by unfold vp_in; decide) d_D_init_534 (fun H locs hP hD hS => ?_)
  have hP : va_P D vwCl ([(x0, .inr (6, fs)), (q, .inl (cq, 91, .inr (.inl (vp_updL (tbL nmL 75) (75 : Int32).toNatClampNeg (1936683124 : Int64)))))]) H := hP
  have hD : va_D A ([(x0, .inr (6, fs)), (q, .inl (cq, 91, .inr (.inl (vp_updL (tbL nmL 75) (75 : Int32).toNatClampNeg (1936683124 : Int64)))))]) := hD
  rw [tbL_s (k := 75) rfl rfl] at hP hD
  refine lv_dup hx hb d_D_init_535 rfl ?_
  refine lv_bipush (v := (76 : Int32)) hx hb d_D_init_536 (by decide) ?_
  refine lv_ldc2 (v := (6518370 : Int64)) hx hb hown (ht _ zw_835) d_D_init_538 ?_
  refine va_last hx hb hK hP hD hS 1 0 rfl rfl (by unfold vp_in; decide) d_D_init_541 (fun H locs hP hD hS => ?_)
  have hP : va_P D vwCl ([(x0, .inr (6, fs)), (q, .inl (cq, 91, .inr (.inl (vp_updL (tbL nmL 76) (76 : Int32).toNatClampNeg (6518370 : Int64)))))]) H := hP
  have hD : va_D A ([(x0, .inr (6, fs)), (q, .inl (cq, 91, .inr (.inl (vp_updL (tbL nmL 76) (76 : Int32).toNatClampNeg (6518370 : Int64)))))]) := hD
  rw [tbL_s (k := 76) rfl rfl] at hP hD
  refine lv_dup hx hb d_D_init_542 rfl ?_
  refine lv_bipush (v := (77 : Int32)) hx hb d_D_init_543 (by decide) ?_
  refine lv_ldc2 (v := (6518388 : Int64)) hx hb hown (ht _ zw_836) d_D_init_545 ?_
  refine va_last hx hb hK hP hD hS 1 0 rfl rfl (by unfold vp_in; decide) d_D_init_548 (fun H locs hP hD hS => ?_)
  have hP : va_P D vwCl ([(x0, .inr (6, fs)), (q, .inl (cq, 91, .inr (.inl (vp_updL (tbL nmL 77) (77 : Int32).toNatClampNeg (6518388 : Int64)))))]) H := hP
  have hD : va_D A ([(x0, .inr (6, fs)), (q, .inl (cq, 91, .inr (.inl (vp_updL (tbL nmL 77) (77 : Int32).toNatClampNeg (6518388 : Int64)))))]) := hD
  rw [tbL_s (k := 77) rfl rfl] at hP hD
  exact kk H locs hP hD hS
set_option maxHeartbeats 4000000 in
set_option maxRecDepth 100000 in
theorem ch_D_init_549 {p : Program} {l : Launch} {e : Env} {R : Room} {s : State} {m : MethodId} {args : Array Value} {below : List Frame} {meth : Method} {c : Code} {H : Heap} {locs : List Loc} {cells slots : Nat} {Q : State → Prop} {ls : Array Slot} {D : va_G} {A : Nat → Prop} {fs : List Value} {x0 : Nat} {q : Nat} {cq : ClassId} {rest : List Value} (hx : p.tables.exec = Jvm.exec) (hb : c.code = c_D_init) (hown : s.vm.findClass "WindowMachineModel" = some m.cls) (ht : ∀ w9 ∈ zT, w9.before args s = true) (hK : va_K D vwCl [(cq, .long)] s) (hP : va_P D vwCl [(x0, .inr (6, fs)), (q, .inl (cq, 91, .inr (.inl (tbL nmL 78))))] H) (hD : va_D A [(x0, .inr (6, fs)), (q, .inl (cq, 91, .inr (.inl (tbL nmL 78))))]) (hS : va_S A s.heap H locs)
    (kk : ∀ (H : Heap) (locs : List Loc), va_P D vwCl [(x0, .inr (6, fs)), (q, .inl (cq, 91, .inr (.inl (tbL nmL 91))))] H → va_D A [(x0, .inr (6, fs)), (q, .inl (cq, 91, .inr (.inl (tbL nmL 91))))] → va_S A s.heap H locs → W p l e R s m args below meth c H locs cells slots Q (F0 m 640 ls (.ref q :: rest))) : W p l e R s m args below meth c H locs cells slots Q (F0 m 549 ls (.ref q :: rest)) := by
  refine lv_dup hx hb d_D_init_549 rfl ?_
  refine lv_bipush (v := (78 : Int32)) hx hb d_D_init_550 (by decide) ?_
  refine lv_ldc2 (v := (25708 : Int64)) hx hb hown (ht _ zw_837) d_D_init_552 ?_
  refine va_last hx hb hK hP hD hS 1 0 rfl rfl (by unfold vp_in; decide) d_D_init_555 (fun H locs hP hD hS => ?_)
  have hP : va_P D vwCl ([(x0, .inr (6, fs)), (q, .inl (cq, 91, .inr (.inl (vp_updL (tbL nmL 78) (78 : Int32).toNatClampNeg (25708 : Int64)))))]) H := hP
  have hD : va_D A ([(x0, .inr (6, fs)), (q, .inl (cq, 91, .inr (.inl (vp_updL (tbL nmL 78) (78 : Int32).toNatClampNeg (25708 : Int64)))))]) := hD
  rw [tbL_s (k := 78) rfl rfl] at hP hD
  refine lv_dup hx hb d_D_init_556 rfl ?_
  refine lv_bipush (v := (79 : Int32)) hx hb d_D_init_557 (by decide) ?_
  refine lv_ldc2 (v := (1651860588 : Int64)) hx hb hown (ht _ zw_838) d_D_init_559 ?_
  refine va_last hx hb hK hP hD hS 1 0 rfl rfl (by unfold vp_in; decide) d_D_init_562 (fun H locs hP hD hS => ?_)
  have hP : va_P D vwCl ([(x0, .inr (6, fs)), (q, .inl (cq, 91, .inr (.inl (vp_updL (tbL nmL 79) (79 : Int32).toNatClampNeg (1651860588 : Int64)))))]) H := hP
  have hD : va_D A ([(x0, .inr (6, fs)), (q, .inl (cq, 91, .inr (.inl (vp_updL (tbL nmL 79) (79 : Int32).toNatClampNeg (1651860588 : Int64)))))]) := hD
  rw [tbL_s (k := 79) rfl rfl] at hP hD
  refine lv_dup hx hb d_D_init_563 rfl ?_
  refine lv_bipush (v := (80 : Int32)) hx hb d_D_init_564 (by decide) ?_
  refine lv_ldc2 (v := (1752523884 : Int64)) hx hb hown (ht _ zw_839) d_D_init_566 ?_
  refine va_last hx hb hK hP hD hS 1 0 rfl rfl (by unfold vp_in; decide) d_D_init_569 (fun H locs hP hD hS => ?_)
  have hP : va_P D vwCl ([(x0, .inr (6, fs)), (q, .inl (cq, 91, .inr (.inl (vp_updL (tbL nmL 80) (80 : Int32).toNatClampNeg (1752523884 : Int64)))))]) H := hP
  have hD : va_D A ([(x0, .inr (6, fs)), (q, .inl (cq, 91, .inr (.inl (vp_updL (tbL nmL 80) (80 : Int32).toNatClampNeg (1752523884 : Int64)))))]) := hD
  rw [tbL_s (k := 80) rfl rfl] at hP hD
  refine lv_dup hx hb d_D_init_570 rfl ?_
  refine lv_bipush (v := (81 : Int32)) hx hb d_D_init_571 (by decide) ?_
  refine lv_ldc2 (v := (6579308 : Int64)) hx hb hown (ht _ zw_840) d_D_init_573 ?_
  refine va_last hx hb hK hP hD hS 1 0 rfl rfl (by unfold vp_in; decide) d_D_init_576 (fun H locs hP hD hS => ?_)
  have hP : va_P D vwCl ([(x0, .inr (6, fs)), (q, .inl (cq, 91, .inr (.inl (vp_updL (tbL nmL 81) (81 : Int32).toNatClampNeg (6579308 : Int64)))))]) H := hP
  have hD : va_D A ([(x0, .inr (6, fs)), (q, .inl (cq, 91, .inr (.inl (vp_updL (tbL nmL 81) (81 : Int32).toNatClampNeg (6579308 : Int64)))))]) := hD
  rw [tbL_s (k := 81) rfl rfl] at hP hD
  refine lv_dup hx hb d_D_init_577 rfl ?_
  refine lv_bipush (v := (82 : Int32)) hx hb d_D_init_578 (by decide) ?_
  refine lv_ldc2 (v := (1651729516 : Int64)) hx hb hown (ht _ zw_841) d_D_init_580 ?_
  refine va_last hx hb hK hP hD hS 1 0 rfl rfl (by unfold vp_in; decide) d_D_init_583 (fun H locs hP hD hS => ?_)
  have hP : va_P D vwCl ([(x0, .inr (6, fs)), (q, .inl (cq, 91, .inr (.inl (vp_updL (tbL nmL 82) (82 : Int32).toNatClampNeg (1651729516 : Int64)))))]) H := hP
  have hD : va_D A ([(x0, .inr (6, fs)), (q, .inl (cq, 91, .inr (.inl (vp_updL (tbL nmL 82) (82 : Int32).toNatClampNeg (1651729516 : Int64)))))]) := hD
  rw [tbL_s (k := 82) rfl rfl] at hP hD
  refine lv_dup hx hb d_D_init_584 rfl ?_
  refine lv_bipush (v := (83 : Int32)) hx hb d_D_init_585 (by decide) ?_
  refine lv_ldc2 (v := (1752392812 : Int64)) hx hb hown (ht _ zw_842) d_D_init_587 ?_
  refine va_last hx hb hK hP hD hS 1 0 rfl rfl (by unfold vp_in; decide) d_D_init_590 (fun H locs hP hD hS => ?_)
  have hP : va_P D vwCl ([(x0, .inr (6, fs)), (q, .inl (cq, 91, .inr (.inl (vp_updL (tbL nmL 83) (83 : Int32).toNatClampNeg (1752392812 : Int64)))))]) H := hP
  have hD : va_D A ([(x0, .inr (6, fs)), (q, .inl (cq, 91, .inr (.inl (vp_updL (tbL nmL 83) (83 : Int32).toNatClampNeg (1752392812 : Int64)))))]) := hD
  rw [tbL_s (k := 83) rfl rfl] at hP hD
  refine lv_dup hx hb d_D_init_591 rfl ?_
  refine lv_bipush (v := (84 : Int32)) hx hb d_D_init_592 (by decide) ?_
  refine lv_ldc2 (v := (108256604415084 : Int64)) hx hb hown (ht _ zw_843) d_D_init_594 ?_
  refine va_last hx hb hK hP hD hS 1 0 rfl rfl (by unfold vp_in; decide) d_D_init_597 (fun H locs hP hD hS => ?_)
  have hP : va_P D vwCl ([(x0, .inr (6, fs)), (q, .inl (cq, 91, .inr (.inl (vp_updL (tbL nmL 84) (84 : Int32).toNatClampNeg (108256604415084 : Int64)))))]) H := hP
  have hD : va_D A ([(x0, .inr (6, fs)), (q, .inl (cq, 91, .inr (.inl (vp_updL (tbL nmL 84) (84 : Int32).toNatClampNeg (108256604415084 : Int64)))))]) := hD
  rw [tbL_s (k := 84) rfl rfl] at hP hD
  refine lv_dup hx hb d_D_init_598 rfl ?_
  refine lv_bipush (v := (85 : Int32)) hx hb d_D_init_599 (by decide) ?_
  refine lv_ldc2 (v := (1885435763 : Int64)) hx hb hown (ht _ zw_844) d_D_init_601 ?_
  refine va_last hx hb hK hP hD hS 1 0 rfl rfl (by unfold vp_in; decide) d_D_init_604 (fun H locs hP hD hS => ?_)
  have hP : va_P D vwCl ([(x0, .inr (6, fs)), (q, .inl (cq, 91, .inr (.inl (vp_updL (tbL nmL 85) (85 : Int32).toNatClampNeg (1885435763 : Int64)))))]) H := hP
  have hD : va_D A ([(x0, .inr (6, fs)), (q, .inl (cq, 91, .inr (.inl (vp_updL (tbL nmL 85) (85 : Int32).toNatClampNeg (1885435763 : Int64)))))]) := hD
  rw [tbL_s (k := 85) rfl rfl] at hP hD
  refine lv_dup hx hb d_D_init_605 rfl ?_
  refine lv_bipush (v := (86 : Int32)) hx hb d_D_init_606 (by decide) ?_
  refine lv_ldc2 (v := (29811 : Int64)) hx hb hown (ht _ zw_845) d_D_init_608 ?_
  refine va_last hx hb hK hP hD hS 1 0 rfl rfl (by unfold vp_in; decide) d_D_init_611 (fun H locs hP hD hS => ?_)
  have hP : va_P D vwCl ([(x0, .inr (6, fs)), (q, .inl (cq, 91, .inr (.inl (vp_updL (tbL nmL 86) (86 : Int32).toNatClampNeg (29811 : Int64)))))]) H := hP
  have hD : va_D A ([(x0, .inr (6, fs)), (q, .inl (cq, 91, .inr (.inl (vp_updL (tbL nmL 86) (86 : Int32).toNatClampNeg (29811 : Int64)))))]) := hD
  rw [tbL_s (k := 86) rfl rfl] at hP hD
  refine lv_dup hx hb d_D_init_612 rfl ?_
  refine lv_bipush (v := (87 : Int32)) hx hb d_D_init_613 (by decide) ?_
  refine lv_ldc2 (v := (6452339 : Int64)) hx hb hown (ht _ zw_846) d_D_init_615 ?_
  refine va_last hx hb hK hP hD hS 1 0 rfl rfl (by unfold vp_in; decide) d_D_init_618 (fun H locs hP hD hS => ?_)
  have hP : va_P D vwCl ([(x0, .inr (6, fs)), (q, .inl (cq, 91, .inr (.inl (vp_updL (tbL nmL 87) (87 : Int32).toNatClampNeg (6452339 : Int64)))))]) H := hP
  have hD : va_D A ([(x0, .inr (6, fs)), (q, .inl (cq, 91, .inr (.inl (vp_updL (tbL nmL 87) (87 : Int32).toNatClampNeg (6452339 : Int64)))))]) := hD
  rw [tbL_s (k := 87) rfl rfl] at hP hD
  refine lv_dup hx hb d_D_init_619 rfl ?_
  refine lv_bipush (v := (88 : Int32)) hx hb d_D_init_620 (by decide) ?_
  refine lv_ldc2 (v := (6845555 : Int64)) hx hb hown (ht _ zw_847) d_D_init_622 ?_
  refine va_last hx hb hK hP hD hS 1 0 rfl rfl (by unfold vp_in; decide) d_D_init_625 (fun H locs hP hD hS => ?_)
  have hP : va_P D vwCl ([(x0, .inr (6, fs)), (q, .inl (cq, 91, .inr (.inl (vp_updL (tbL nmL 88) (88 : Int32).toNatClampNeg (6845555 : Int64)))))]) H := hP
  have hD : va_D A ([(x0, .inr (6, fs)), (q, .inl (cq, 91, .inr (.inl (vp_updL (tbL nmL 88) (88 : Int32).toNatClampNeg (6845555 : Int64)))))]) := hD
  rw [tbL_s (k := 88) rfl rfl] at hP hD
  refine lv_dup hx hb d_D_init_626 rfl ?_
  refine lv_bipush (v := (89 : Int32)) hx hb d_D_init_627 (by decide) ?_
  refine lv_ldc2 (v := (6583411 : Int64)) hx hb hown (ht _ zw_848) d_D_init_629 ?_
  refine va_last hx hb hK hP hD hS 1 0 rfl rfl (by unfold vp_in; decide) d_D_init_632 (fun H locs hP hD hS => ?_)
  have hP : va_P D vwCl ([(x0, .inr (6, fs)), (q, .inl (cq, 91, .inr (.inl (vp_updL (tbL nmL 89) (89 : Int32).toNatClampNeg (6583411 : Int64)))))]) H := hP
  have hD : va_D A ([(x0, .inr (6, fs)), (q, .inl (cq, 91, .inr (.inl (vp_updL (tbL nmL 89) (89 : Int32).toNatClampNeg (6583411 : Int64)))))]) := hD
  rw [tbL_s (k := 89) rfl rfl] at hP hD
  refine lv_dup hx hb d_D_init_633 rfl ?_
  refine lv_bipush (v := (90 : Int32)) hx hb d_D_init_634 (by decide) ?_
  refine lv_ldc2 (v := (7368558 : Int64)) hx hb hown (ht _ zw_849) d_D_init_636 ?_
  refine va_last hx hb hK hP hD hS 1 0 rfl rfl (by unfold vp_in; decide) d_D_init_639 (fun H locs hP hD hS => ?_)
  have hP : va_P D vwCl ([(x0, .inr (6, fs)), (q, .inl (cq, 91, .inr (.inl (vp_updL (tbL nmL 90) (90 : Int32).toNatClampNeg (7368558 : Int64)))))]) H := hP
  have hD : va_D A ([(x0, .inr (6, fs)), (q, .inl (cq, 91, .inr (.inl (vp_updL (tbL nmL 90) (90 : Int32).toNatClampNeg (7368558 : Int64)))))]) := hD
  rw [tbL_s (k := 90) rfl rfl] at hP hD
  exact kk H locs hP hD hS
set_option maxHeartbeats 4000000 in
set_option maxRecDepth 100000 in
theorem ch_D_init_648 {p : Program} {l : Launch} {e : Env} {R : Room} {s : State} {m : MethodId} {args : Array Value} {below : List Frame} {meth : Method} {c : Code} {H : Heap} {locs : List Loc} {cells slots : Nat} {Q : State → Prop} {ls : Array Slot} {D : va_G} {A : Nat → Prop} {fs : List Value} {x0 : Nat} {x1 : Nat} {c1 : ClassId} {f1 : Nat → Int64} {q : Nat} {cq : ClassId} {rest : List Value} (hx : p.tables.exec = Jvm.exec) (hb : c.code = c_D_init) (hown : s.vm.findClass "WindowMachineModel" = some m.cls) (ht : ∀ w9 ∈ zT, w9.before args s = true) (hK : va_K D vwCl [(c1, .long), (cq, .int)] s) (hP : va_P D vwCl [(x0, .inr (6, fs)), (x1, .inl (c1, 91, .inr (.inl f1))), (q, .inl (cq, 91, .inl (tbI fmL 0)))] H) (hD : va_D A [(x0, .inr (6, fs)), (x1, .inl (c1, 91, .inr (.inl f1))), (q, .inl (cq, 91, .inl (tbI fmL 0)))]) (hS : va_S A s.heap H locs)
    (kk : ∀ (H : Heap) (locs : List Loc), va_P D vwCl [(x0, .inr (6, fs)), (x1, .inl (c1, 91, .inr (.inl f1))), (q, .inl (cq, 91, .inl (tbI fmL 13)))] H → va_D A [(x0, .inr (6, fs)), (x1, .inl (c1, 91, .inr (.inl f1))), (q, .inl (cq, 91, .inl (tbI fmL 13)))] → va_S A s.heap H locs → W p l e R s m args below meth c H locs cells slots Q (F0 m 707 ls (.ref q :: rest))) : W p l e R s m args below meth c H locs cells slots Q (F0 m 648 ls (.ref q :: rest)) := by
  refine lv_dup hx hb d_D_init_648 rfl ?_
  refine lv_iconst (v := (0 : Int32)) hx hb d_D_init_649 (by decide) ?_
  refine lv_iconst (v := (0 : Int32)) hx hb d_D_init_650 (by decide) ?_
  refine va_iast hx hb hK hP hD hS 2 1 rfl rfl (by unfold vp_in; decide) d_D_init_651 (fun H locs hP hD hS => ?_)
  have hP : va_P D vwCl ([(x0, .inr (6, fs)), (x1, .inl (c1, 91, .inr (.inl f1))), (q, .inl (cq, 91, .inl (upd (tbI fmL 0) (0 : Int32).toNatClampNeg (0 : Int32))))]) H := hP
  have hD : va_D A ([(x0, .inr (6, fs)), (x1, .inl (c1, 91, .inr (.inl f1))), (q, .inl (cq, 91, .inl (upd (tbI fmL 0) (0 : Int32).toNatClampNeg (0 : Int32))))]) := hD
  rw [tbI_s (k := 0) rfl rfl] at hP hD
  refine lv_dup hx hb d_D_init_652 rfl ?_
  refine lv_iconst (v := (1 : Int32)) hx hb d_D_init_653 (by decide) ?_
  refine lv_iconst (v := (0 : Int32)) hx hb d_D_init_654 (by decide) ?_
  refine va_iast hx hb hK hP hD hS 2 1 rfl rfl (by unfold vp_in; decide) d_D_init_655 (fun H locs hP hD hS => ?_)
  have hP : va_P D vwCl ([(x0, .inr (6, fs)), (x1, .inl (c1, 91, .inr (.inl f1))), (q, .inl (cq, 91, .inl (upd (tbI fmL 1) (1 : Int32).toNatClampNeg (0 : Int32))))]) H := hP
  have hD : va_D A ([(x0, .inr (6, fs)), (x1, .inl (c1, 91, .inr (.inl f1))), (q, .inl (cq, 91, .inl (upd (tbI fmL 1) (1 : Int32).toNatClampNeg (0 : Int32))))]) := hD
  rw [tbI_s (k := 1) rfl rfl] at hP hD
  refine lv_dup hx hb d_D_init_656 rfl ?_
  refine lv_iconst (v := (2 : Int32)) hx hb d_D_init_657 (by decide) ?_
  refine lv_iconst (v := (0 : Int32)) hx hb d_D_init_658 (by decide) ?_
  refine va_iast hx hb hK hP hD hS 2 1 rfl rfl (by unfold vp_in; decide) d_D_init_659 (fun H locs hP hD hS => ?_)
  have hP : va_P D vwCl ([(x0, .inr (6, fs)), (x1, .inl (c1, 91, .inr (.inl f1))), (q, .inl (cq, 91, .inl (upd (tbI fmL 2) (2 : Int32).toNatClampNeg (0 : Int32))))]) H := hP
  have hD : va_D A ([(x0, .inr (6, fs)), (x1, .inl (c1, 91, .inr (.inl f1))), (q, .inl (cq, 91, .inl (upd (tbI fmL 2) (2 : Int32).toNatClampNeg (0 : Int32))))]) := hD
  rw [tbI_s (k := 2) rfl rfl] at hP hD
  refine lv_dup hx hb d_D_init_660 rfl ?_
  refine lv_iconst (v := (3 : Int32)) hx hb d_D_init_661 (by decide) ?_
  refine lv_iconst (v := (0 : Int32)) hx hb d_D_init_662 (by decide) ?_
  refine va_iast hx hb hK hP hD hS 2 1 rfl rfl (by unfold vp_in; decide) d_D_init_663 (fun H locs hP hD hS => ?_)
  have hP : va_P D vwCl ([(x0, .inr (6, fs)), (x1, .inl (c1, 91, .inr (.inl f1))), (q, .inl (cq, 91, .inl (upd (tbI fmL 3) (3 : Int32).toNatClampNeg (0 : Int32))))]) H := hP
  have hD : va_D A ([(x0, .inr (6, fs)), (x1, .inl (c1, 91, .inr (.inl f1))), (q, .inl (cq, 91, .inl (upd (tbI fmL 3) (3 : Int32).toNatClampNeg (0 : Int32))))]) := hD
  rw [tbI_s (k := 3) rfl rfl] at hP hD
  refine lv_dup hx hb d_D_init_664 rfl ?_
  refine lv_iconst (v := (4 : Int32)) hx hb d_D_init_665 (by decide) ?_
  refine lv_iconst (v := (0 : Int32)) hx hb d_D_init_666 (by decide) ?_
  refine va_iast hx hb hK hP hD hS 2 1 rfl rfl (by unfold vp_in; decide) d_D_init_667 (fun H locs hP hD hS => ?_)
  have hP : va_P D vwCl ([(x0, .inr (6, fs)), (x1, .inl (c1, 91, .inr (.inl f1))), (q, .inl (cq, 91, .inl (upd (tbI fmL 4) (4 : Int32).toNatClampNeg (0 : Int32))))]) H := hP
  have hD : va_D A ([(x0, .inr (6, fs)), (x1, .inl (c1, 91, .inr (.inl f1))), (q, .inl (cq, 91, .inl (upd (tbI fmL 4) (4 : Int32).toNatClampNeg (0 : Int32))))]) := hD
  rw [tbI_s (k := 4) rfl rfl] at hP hD
  refine lv_dup hx hb d_D_init_668 rfl ?_
  refine lv_iconst (v := (5 : Int32)) hx hb d_D_init_669 (by decide) ?_
  refine lv_iconst (v := (0 : Int32)) hx hb d_D_init_670 (by decide) ?_
  refine va_iast hx hb hK hP hD hS 2 1 rfl rfl (by unfold vp_in; decide) d_D_init_671 (fun H locs hP hD hS => ?_)
  have hP : va_P D vwCl ([(x0, .inr (6, fs)), (x1, .inl (c1, 91, .inr (.inl f1))), (q, .inl (cq, 91, .inl (upd (tbI fmL 5) (5 : Int32).toNatClampNeg (0 : Int32))))]) H := hP
  have hD : va_D A ([(x0, .inr (6, fs)), (x1, .inl (c1, 91, .inr (.inl f1))), (q, .inl (cq, 91, .inl (upd (tbI fmL 5) (5 : Int32).toNatClampNeg (0 : Int32))))]) := hD
  rw [tbI_s (k := 5) rfl rfl] at hP hD
  refine lv_dup hx hb d_D_init_672 rfl ?_
  refine lv_bipush (v := (6 : Int32)) hx hb d_D_init_673 (by decide) ?_
  refine lv_iconst (v := (0 : Int32)) hx hb d_D_init_675 (by decide) ?_
  refine va_iast hx hb hK hP hD hS 2 1 rfl rfl (by unfold vp_in; decide) d_D_init_676 (fun H locs hP hD hS => ?_)
  have hP : va_P D vwCl ([(x0, .inr (6, fs)), (x1, .inl (c1, 91, .inr (.inl f1))), (q, .inl (cq, 91, .inl (upd (tbI fmL 6) (6 : Int32).toNatClampNeg (0 : Int32))))]) H := hP
  have hD : va_D A ([(x0, .inr (6, fs)), (x1, .inl (c1, 91, .inr (.inl f1))), (q, .inl (cq, 91, .inl (upd (tbI fmL 6) (6 : Int32).toNatClampNeg (0 : Int32))))]) := hD
  rw [tbI_s (k := 6) rfl rfl] at hP hD
  refine lv_dup hx hb d_D_init_677 rfl ?_
  refine lv_bipush (v := (7 : Int32)) hx hb d_D_init_678 (by decide) ?_
  refine lv_iconst (v := (0 : Int32)) hx hb d_D_init_680 (by decide) ?_
  refine va_iast hx hb hK hP hD hS 2 1 rfl rfl (by unfold vp_in; decide) d_D_init_681 (fun H locs hP hD hS => ?_)
  have hP : va_P D vwCl ([(x0, .inr (6, fs)), (x1, .inl (c1, 91, .inr (.inl f1))), (q, .inl (cq, 91, .inl (upd (tbI fmL 7) (7 : Int32).toNatClampNeg (0 : Int32))))]) H := hP
  have hD : va_D A ([(x0, .inr (6, fs)), (x1, .inl (c1, 91, .inr (.inl f1))), (q, .inl (cq, 91, .inl (upd (tbI fmL 7) (7 : Int32).toNatClampNeg (0 : Int32))))]) := hD
  rw [tbI_s (k := 7) rfl rfl] at hP hD
  refine lv_dup hx hb d_D_init_682 rfl ?_
  refine lv_bipush (v := (8 : Int32)) hx hb d_D_init_683 (by decide) ?_
  refine lv_iconst (v := (0 : Int32)) hx hb d_D_init_685 (by decide) ?_
  refine va_iast hx hb hK hP hD hS 2 1 rfl rfl (by unfold vp_in; decide) d_D_init_686 (fun H locs hP hD hS => ?_)
  have hP : va_P D vwCl ([(x0, .inr (6, fs)), (x1, .inl (c1, 91, .inr (.inl f1))), (q, .inl (cq, 91, .inl (upd (tbI fmL 8) (8 : Int32).toNatClampNeg (0 : Int32))))]) H := hP
  have hD : va_D A ([(x0, .inr (6, fs)), (x1, .inl (c1, 91, .inr (.inl f1))), (q, .inl (cq, 91, .inl (upd (tbI fmL 8) (8 : Int32).toNatClampNeg (0 : Int32))))]) := hD
  rw [tbI_s (k := 8) rfl rfl] at hP hD
  refine lv_dup hx hb d_D_init_687 rfl ?_
  refine lv_bipush (v := (9 : Int32)) hx hb d_D_init_688 (by decide) ?_
  refine lv_iconst (v := (0 : Int32)) hx hb d_D_init_690 (by decide) ?_
  refine va_iast hx hb hK hP hD hS 2 1 rfl rfl (by unfold vp_in; decide) d_D_init_691 (fun H locs hP hD hS => ?_)
  have hP : va_P D vwCl ([(x0, .inr (6, fs)), (x1, .inl (c1, 91, .inr (.inl f1))), (q, .inl (cq, 91, .inl (upd (tbI fmL 9) (9 : Int32).toNatClampNeg (0 : Int32))))]) H := hP
  have hD : va_D A ([(x0, .inr (6, fs)), (x1, .inl (c1, 91, .inr (.inl f1))), (q, .inl (cq, 91, .inl (upd (tbI fmL 9) (9 : Int32).toNatClampNeg (0 : Int32))))]) := hD
  rw [tbI_s (k := 9) rfl rfl] at hP hD
  refine lv_dup hx hb d_D_init_692 rfl ?_
  refine lv_bipush (v := (10 : Int32)) hx hb d_D_init_693 (by decide) ?_
  refine lv_iconst (v := (0 : Int32)) hx hb d_D_init_695 (by decide) ?_
  refine va_iast hx hb hK hP hD hS 2 1 rfl rfl (by unfold vp_in; decide) d_D_init_696 (fun H locs hP hD hS => ?_)
  have hP : va_P D vwCl ([(x0, .inr (6, fs)), (x1, .inl (c1, 91, .inr (.inl f1))), (q, .inl (cq, 91, .inl (upd (tbI fmL 10) (10 : Int32).toNatClampNeg (0 : Int32))))]) H := hP
  have hD : va_D A ([(x0, .inr (6, fs)), (x1, .inl (c1, 91, .inr (.inl f1))), (q, .inl (cq, 91, .inl (upd (tbI fmL 10) (10 : Int32).toNatClampNeg (0 : Int32))))]) := hD
  rw [tbI_s (k := 10) rfl rfl] at hP hD
  refine lv_dup hx hb d_D_init_697 rfl ?_
  refine lv_bipush (v := (11 : Int32)) hx hb d_D_init_698 (by decide) ?_
  refine lv_iconst (v := (0 : Int32)) hx hb d_D_init_700 (by decide) ?_
  refine va_iast hx hb hK hP hD hS 2 1 rfl rfl (by unfold vp_in; decide) d_D_init_701 (fun H locs hP hD hS => ?_)
  have hP : va_P D vwCl ([(x0, .inr (6, fs)), (x1, .inl (c1, 91, .inr (.inl f1))), (q, .inl (cq, 91, .inl (upd (tbI fmL 11) (11 : Int32).toNatClampNeg (0 : Int32))))]) H := hP
  have hD : va_D A ([(x0, .inr (6, fs)), (x1, .inl (c1, 91, .inr (.inl f1))), (q, .inl (cq, 91, .inl (upd (tbI fmL 11) (11 : Int32).toNatClampNeg (0 : Int32))))]) := hD
  rw [tbI_s (k := 11) rfl rfl] at hP hD
  refine lv_dup hx hb d_D_init_702 rfl ?_
  refine lv_bipush (v := (12 : Int32)) hx hb d_D_init_703 (by decide) ?_
  refine lv_iconst (v := (0 : Int32)) hx hb d_D_init_705 (by decide) ?_
  refine va_iast hx hb hK hP hD hS 2 1 rfl rfl (by unfold vp_in; decide) d_D_init_706 (fun H locs hP hD hS => ?_)
  have hP : va_P D vwCl ([(x0, .inr (6, fs)), (x1, .inl (c1, 91, .inr (.inl f1))), (q, .inl (cq, 91, .inl (upd (tbI fmL 12) (12 : Int32).toNatClampNeg (0 : Int32))))]) H := hP
  have hD : va_D A ([(x0, .inr (6, fs)), (x1, .inl (c1, 91, .inr (.inl f1))), (q, .inl (cq, 91, .inl (upd (tbI fmL 12) (12 : Int32).toNatClampNeg (0 : Int32))))]) := hD
  rw [tbI_s (k := 12) rfl rfl] at hP hD
  exact kk H locs hP hD hS
set_option maxHeartbeats 4000000 in
set_option maxRecDepth 100000 in
theorem ch_D_init_707 {p : Program} {l : Launch} {e : Env} {R : Room} {s : State} {m : MethodId} {args : Array Value} {below : List Frame} {meth : Method} {c : Code} {H : Heap} {locs : List Loc} {cells slots : Nat} {Q : State → Prop} {ls : Array Slot} {D : va_G} {A : Nat → Prop} {fs : List Value} {x0 : Nat} {x1 : Nat} {c1 : ClassId} {f1 : Nat → Int64} {q : Nat} {cq : ClassId} {rest : List Value} (hx : p.tables.exec = Jvm.exec) (hb : c.code = c_D_init) (hown : s.vm.findClass "WindowMachineModel" = some m.cls) (ht : ∀ w9 ∈ zT, w9.before args s = true) (hK : va_K D vwCl [(c1, .long), (cq, .int)] s) (hP : va_P D vwCl [(x0, .inr (6, fs)), (x1, .inl (c1, 91, .inr (.inl f1))), (q, .inl (cq, 91, .inl (tbI fmL 13)))] H) (hD : va_D A [(x0, .inr (6, fs)), (x1, .inl (c1, 91, .inr (.inl f1))), (q, .inl (cq, 91, .inl (tbI fmL 13)))]) (hS : va_S A s.heap H locs)
    (kk : ∀ (H : Heap) (locs : List Loc), va_P D vwCl [(x0, .inr (6, fs)), (x1, .inl (c1, 91, .inr (.inl f1))), (q, .inl (cq, 91, .inl (tbI fmL 26)))] H → va_D A [(x0, .inr (6, fs)), (x1, .inl (c1, 91, .inr (.inl f1))), (q, .inl (cq, 91, .inl (tbI fmL 26)))] → va_S A s.heap H locs → W p l e R s m args below meth c H locs cells slots Q (F0 m 772 ls (.ref q :: rest))) : W p l e R s m args below meth c H locs cells slots Q (F0 m 707 ls (.ref q :: rest)) := by
  refine lv_dup hx hb d_D_init_707 rfl ?_
  refine lv_bipush (v := (13 : Int32)) hx hb d_D_init_708 (by decide) ?_
  refine lv_iconst (v := (0 : Int32)) hx hb d_D_init_710 (by decide) ?_
  refine va_iast hx hb hK hP hD hS 2 1 rfl rfl (by unfold vp_in; decide) d_D_init_711 (fun H locs hP hD hS => ?_)
  have hP : va_P D vwCl ([(x0, .inr (6, fs)), (x1, .inl (c1, 91, .inr (.inl f1))), (q, .inl (cq, 91, .inl (upd (tbI fmL 13) (13 : Int32).toNatClampNeg (0 : Int32))))]) H := hP
  have hD : va_D A ([(x0, .inr (6, fs)), (x1, .inl (c1, 91, .inr (.inl f1))), (q, .inl (cq, 91, .inl (upd (tbI fmL 13) (13 : Int32).toNatClampNeg (0 : Int32))))]) := hD
  rw [tbI_s (k := 13) rfl rfl] at hP hD
  refine lv_dup hx hb d_D_init_712 rfl ?_
  refine lv_bipush (v := (14 : Int32)) hx hb d_D_init_713 (by decide) ?_
  refine lv_iconst (v := (0 : Int32)) hx hb d_D_init_715 (by decide) ?_
  refine va_iast hx hb hK hP hD hS 2 1 rfl rfl (by unfold vp_in; decide) d_D_init_716 (fun H locs hP hD hS => ?_)
  have hP : va_P D vwCl ([(x0, .inr (6, fs)), (x1, .inl (c1, 91, .inr (.inl f1))), (q, .inl (cq, 91, .inl (upd (tbI fmL 14) (14 : Int32).toNatClampNeg (0 : Int32))))]) H := hP
  have hD : va_D A ([(x0, .inr (6, fs)), (x1, .inl (c1, 91, .inr (.inl f1))), (q, .inl (cq, 91, .inl (upd (tbI fmL 14) (14 : Int32).toNatClampNeg (0 : Int32))))]) := hD
  rw [tbI_s (k := 14) rfl rfl] at hP hD
  refine lv_dup hx hb d_D_init_717 rfl ?_
  refine lv_bipush (v := (15 : Int32)) hx hb d_D_init_718 (by decide) ?_
  refine lv_iconst (v := (0 : Int32)) hx hb d_D_init_720 (by decide) ?_
  refine va_iast hx hb hK hP hD hS 2 1 rfl rfl (by unfold vp_in; decide) d_D_init_721 (fun H locs hP hD hS => ?_)
  have hP : va_P D vwCl ([(x0, .inr (6, fs)), (x1, .inl (c1, 91, .inr (.inl f1))), (q, .inl (cq, 91, .inl (upd (tbI fmL 15) (15 : Int32).toNatClampNeg (0 : Int32))))]) H := hP
  have hD : va_D A ([(x0, .inr (6, fs)), (x1, .inl (c1, 91, .inr (.inl f1))), (q, .inl (cq, 91, .inl (upd (tbI fmL 15) (15 : Int32).toNatClampNeg (0 : Int32))))]) := hD
  rw [tbI_s (k := 15) rfl rfl] at hP hD
  refine lv_dup hx hb d_D_init_722 rfl ?_
  refine lv_bipush (v := (16 : Int32)) hx hb d_D_init_723 (by decide) ?_
  refine lv_iconst (v := (0 : Int32)) hx hb d_D_init_725 (by decide) ?_
  refine va_iast hx hb hK hP hD hS 2 1 rfl rfl (by unfold vp_in; decide) d_D_init_726 (fun H locs hP hD hS => ?_)
  have hP : va_P D vwCl ([(x0, .inr (6, fs)), (x1, .inl (c1, 91, .inr (.inl f1))), (q, .inl (cq, 91, .inl (upd (tbI fmL 16) (16 : Int32).toNatClampNeg (0 : Int32))))]) H := hP
  have hD : va_D A ([(x0, .inr (6, fs)), (x1, .inl (c1, 91, .inr (.inl f1))), (q, .inl (cq, 91, .inl (upd (tbI fmL 16) (16 : Int32).toNatClampNeg (0 : Int32))))]) := hD
  rw [tbI_s (k := 16) rfl rfl] at hP hD
  refine lv_dup hx hb d_D_init_727 rfl ?_
  refine lv_bipush (v := (17 : Int32)) hx hb d_D_init_728 (by decide) ?_
  refine lv_iconst (v := (0 : Int32)) hx hb d_D_init_730 (by decide) ?_
  refine va_iast hx hb hK hP hD hS 2 1 rfl rfl (by unfold vp_in; decide) d_D_init_731 (fun H locs hP hD hS => ?_)
  have hP : va_P D vwCl ([(x0, .inr (6, fs)), (x1, .inl (c1, 91, .inr (.inl f1))), (q, .inl (cq, 91, .inl (upd (tbI fmL 17) (17 : Int32).toNatClampNeg (0 : Int32))))]) H := hP
  have hD : va_D A ([(x0, .inr (6, fs)), (x1, .inl (c1, 91, .inr (.inl f1))), (q, .inl (cq, 91, .inl (upd (tbI fmL 17) (17 : Int32).toNatClampNeg (0 : Int32))))]) := hD
  rw [tbI_s (k := 17) rfl rfl] at hP hD
  refine lv_dup hx hb d_D_init_732 rfl ?_
  refine lv_bipush (v := (18 : Int32)) hx hb d_D_init_733 (by decide) ?_
  refine lv_iconst (v := (0 : Int32)) hx hb d_D_init_735 (by decide) ?_
  refine va_iast hx hb hK hP hD hS 2 1 rfl rfl (by unfold vp_in; decide) d_D_init_736 (fun H locs hP hD hS => ?_)
  have hP : va_P D vwCl ([(x0, .inr (6, fs)), (x1, .inl (c1, 91, .inr (.inl f1))), (q, .inl (cq, 91, .inl (upd (tbI fmL 18) (18 : Int32).toNatClampNeg (0 : Int32))))]) H := hP
  have hD : va_D A ([(x0, .inr (6, fs)), (x1, .inl (c1, 91, .inr (.inl f1))), (q, .inl (cq, 91, .inl (upd (tbI fmL 18) (18 : Int32).toNatClampNeg (0 : Int32))))]) := hD
  rw [tbI_s (k := 18) rfl rfl] at hP hD
  refine lv_dup hx hb d_D_init_737 rfl ?_
  refine lv_bipush (v := (19 : Int32)) hx hb d_D_init_738 (by decide) ?_
  refine lv_iconst (v := (0 : Int32)) hx hb d_D_init_740 (by decide) ?_
  refine va_iast hx hb hK hP hD hS 2 1 rfl rfl (by unfold vp_in; decide) d_D_init_741 (fun H locs hP hD hS => ?_)
  have hP : va_P D vwCl ([(x0, .inr (6, fs)), (x1, .inl (c1, 91, .inr (.inl f1))), (q, .inl (cq, 91, .inl (upd (tbI fmL 19) (19 : Int32).toNatClampNeg (0 : Int32))))]) H := hP
  have hD : va_D A ([(x0, .inr (6, fs)), (x1, .inl (c1, 91, .inr (.inl f1))), (q, .inl (cq, 91, .inl (upd (tbI fmL 19) (19 : Int32).toNatClampNeg (0 : Int32))))]) := hD
  rw [tbI_s (k := 19) rfl rfl] at hP hD
  refine lv_dup hx hb d_D_init_742 rfl ?_
  refine lv_bipush (v := (20 : Int32)) hx hb d_D_init_743 (by decide) ?_
  refine lv_iconst (v := (0 : Int32)) hx hb d_D_init_745 (by decide) ?_
  refine va_iast hx hb hK hP hD hS 2 1 rfl rfl (by unfold vp_in; decide) d_D_init_746 (fun H locs hP hD hS => ?_)
  have hP : va_P D vwCl ([(x0, .inr (6, fs)), (x1, .inl (c1, 91, .inr (.inl f1))), (q, .inl (cq, 91, .inl (upd (tbI fmL 20) (20 : Int32).toNatClampNeg (0 : Int32))))]) H := hP
  have hD : va_D A ([(x0, .inr (6, fs)), (x1, .inl (c1, 91, .inr (.inl f1))), (q, .inl (cq, 91, .inl (upd (tbI fmL 20) (20 : Int32).toNatClampNeg (0 : Int32))))]) := hD
  rw [tbI_s (k := 20) rfl rfl] at hP hD
  refine lv_dup hx hb d_D_init_747 rfl ?_
  refine lv_bipush (v := (21 : Int32)) hx hb d_D_init_748 (by decide) ?_
  refine lv_iconst (v := (0 : Int32)) hx hb d_D_init_750 (by decide) ?_
  refine va_iast hx hb hK hP hD hS 2 1 rfl rfl (by unfold vp_in; decide) d_D_init_751 (fun H locs hP hD hS => ?_)
  have hP : va_P D vwCl ([(x0, .inr (6, fs)), (x1, .inl (c1, 91, .inr (.inl f1))), (q, .inl (cq, 91, .inl (upd (tbI fmL 21) (21 : Int32).toNatClampNeg (0 : Int32))))]) H := hP
  have hD : va_D A ([(x0, .inr (6, fs)), (x1, .inl (c1, 91, .inr (.inl f1))), (q, .inl (cq, 91, .inl (upd (tbI fmL 21) (21 : Int32).toNatClampNeg (0 : Int32))))]) := hD
  rw [tbI_s (k := 21) rfl rfl] at hP hD
  refine lv_dup hx hb d_D_init_752 rfl ?_
  refine lv_bipush (v := (22 : Int32)) hx hb d_D_init_753 (by decide) ?_
  refine lv_iconst (v := (0 : Int32)) hx hb d_D_init_755 (by decide) ?_
  refine va_iast hx hb hK hP hD hS 2 1 rfl rfl (by unfold vp_in; decide) d_D_init_756 (fun H locs hP hD hS => ?_)
  have hP : va_P D vwCl ([(x0, .inr (6, fs)), (x1, .inl (c1, 91, .inr (.inl f1))), (q, .inl (cq, 91, .inl (upd (tbI fmL 22) (22 : Int32).toNatClampNeg (0 : Int32))))]) H := hP
  have hD : va_D A ([(x0, .inr (6, fs)), (x1, .inl (c1, 91, .inr (.inl f1))), (q, .inl (cq, 91, .inl (upd (tbI fmL 22) (22 : Int32).toNatClampNeg (0 : Int32))))]) := hD
  rw [tbI_s (k := 22) rfl rfl] at hP hD
  refine lv_dup hx hb d_D_init_757 rfl ?_
  refine lv_bipush (v := (23 : Int32)) hx hb d_D_init_758 (by decide) ?_
  refine lv_iconst (v := (0 : Int32)) hx hb d_D_init_760 (by decide) ?_
  refine va_iast hx hb hK hP hD hS 2 1 rfl rfl (by unfold vp_in; decide) d_D_init_761 (fun H locs hP hD hS => ?_)
  have hP : va_P D vwCl ([(x0, .inr (6, fs)), (x1, .inl (c1, 91, .inr (.inl f1))), (q, .inl (cq, 91, .inl (upd (tbI fmL 23) (23 : Int32).toNatClampNeg (0 : Int32))))]) H := hP
  have hD : va_D A ([(x0, .inr (6, fs)), (x1, .inl (c1, 91, .inr (.inl f1))), (q, .inl (cq, 91, .inl (upd (tbI fmL 23) (23 : Int32).toNatClampNeg (0 : Int32))))]) := hD
  rw [tbI_s (k := 23) rfl rfl] at hP hD
  refine lv_dup hx hb d_D_init_762 rfl ?_
  refine lv_bipush (v := (24 : Int32)) hx hb d_D_init_763 (by decide) ?_
  refine lv_iconst (v := (0 : Int32)) hx hb d_D_init_765 (by decide) ?_
  refine va_iast hx hb hK hP hD hS 2 1 rfl rfl (by unfold vp_in; decide) d_D_init_766 (fun H locs hP hD hS => ?_)
  have hP : va_P D vwCl ([(x0, .inr (6, fs)), (x1, .inl (c1, 91, .inr (.inl f1))), (q, .inl (cq, 91, .inl (upd (tbI fmL 24) (24 : Int32).toNatClampNeg (0 : Int32))))]) H := hP
  have hD : va_D A ([(x0, .inr (6, fs)), (x1, .inl (c1, 91, .inr (.inl f1))), (q, .inl (cq, 91, .inl (upd (tbI fmL 24) (24 : Int32).toNatClampNeg (0 : Int32))))]) := hD
  rw [tbI_s (k := 24) rfl rfl] at hP hD
  refine lv_dup hx hb d_D_init_767 rfl ?_
  refine lv_bipush (v := (25 : Int32)) hx hb d_D_init_768 (by decide) ?_
  refine lv_iconst (v := (0 : Int32)) hx hb d_D_init_770 (by decide) ?_
  refine va_iast hx hb hK hP hD hS 2 1 rfl rfl (by unfold vp_in; decide) d_D_init_771 (fun H locs hP hD hS => ?_)
  have hP : va_P D vwCl ([(x0, .inr (6, fs)), (x1, .inl (c1, 91, .inr (.inl f1))), (q, .inl (cq, 91, .inl (upd (tbI fmL 25) (25 : Int32).toNatClampNeg (0 : Int32))))]) H := hP
  have hD : va_D A ([(x0, .inr (6, fs)), (x1, .inl (c1, 91, .inr (.inl f1))), (q, .inl (cq, 91, .inl (upd (tbI fmL 25) (25 : Int32).toNatClampNeg (0 : Int32))))]) := hD
  rw [tbI_s (k := 25) rfl rfl] at hP hD
  exact kk H locs hP hD hS
set_option maxHeartbeats 4000000 in
set_option maxRecDepth 100000 in
theorem ch_D_init_772 {p : Program} {l : Launch} {e : Env} {R : Room} {s : State} {m : MethodId} {args : Array Value} {below : List Frame} {meth : Method} {c : Code} {H : Heap} {locs : List Loc} {cells slots : Nat} {Q : State → Prop} {ls : Array Slot} {D : va_G} {A : Nat → Prop} {fs : List Value} {x0 : Nat} {x1 : Nat} {c1 : ClassId} {f1 : Nat → Int64} {q : Nat} {cq : ClassId} {rest : List Value} (hx : p.tables.exec = Jvm.exec) (hb : c.code = c_D_init) (hown : s.vm.findClass "WindowMachineModel" = some m.cls) (ht : ∀ w9 ∈ zT, w9.before args s = true) (hK : va_K D vwCl [(c1, .long), (cq, .int)] s) (hP : va_P D vwCl [(x0, .inr (6, fs)), (x1, .inl (c1, 91, .inr (.inl f1))), (q, .inl (cq, 91, .inl (tbI fmL 26)))] H) (hD : va_D A [(x0, .inr (6, fs)), (x1, .inl (c1, 91, .inr (.inl f1))), (q, .inl (cq, 91, .inl (tbI fmL 26)))]) (hS : va_S A s.heap H locs)
    (kk : ∀ (H : Heap) (locs : List Loc), va_P D vwCl [(x0, .inr (6, fs)), (x1, .inl (c1, 91, .inr (.inl f1))), (q, .inl (cq, 91, .inl (tbI fmL 39)))] H → va_D A [(x0, .inr (6, fs)), (x1, .inl (c1, 91, .inr (.inl f1))), (q, .inl (cq, 91, .inl (tbI fmL 39)))] → va_S A s.heap H locs → W p l e R s m args below meth c H locs cells slots Q (F0 m 837 ls (.ref q :: rest))) : W p l e R s m args below meth c H locs cells slots Q (F0 m 772 ls (.ref q :: rest)) := by
  refine lv_dup hx hb d_D_init_772 rfl ?_
  refine lv_bipush (v := (26 : Int32)) hx hb d_D_init_773 (by decide) ?_
  refine lv_iconst (v := (0 : Int32)) hx hb d_D_init_775 (by decide) ?_
  refine va_iast hx hb hK hP hD hS 2 1 rfl rfl (by unfold vp_in; decide) d_D_init_776 (fun H locs hP hD hS => ?_)
  have hP : va_P D vwCl ([(x0, .inr (6, fs)), (x1, .inl (c1, 91, .inr (.inl f1))), (q, .inl (cq, 91, .inl (upd (tbI fmL 26) (26 : Int32).toNatClampNeg (0 : Int32))))]) H := hP
  have hD : va_D A ([(x0, .inr (6, fs)), (x1, .inl (c1, 91, .inr (.inl f1))), (q, .inl (cq, 91, .inl (upd (tbI fmL 26) (26 : Int32).toNatClampNeg (0 : Int32))))]) := hD
  rw [tbI_s (k := 26) rfl rfl] at hP hD
  refine lv_dup hx hb d_D_init_777 rfl ?_
  refine lv_bipush (v := (27 : Int32)) hx hb d_D_init_778 (by decide) ?_
  refine lv_iconst (v := (0 : Int32)) hx hb d_D_init_780 (by decide) ?_
  refine va_iast hx hb hK hP hD hS 2 1 rfl rfl (by unfold vp_in; decide) d_D_init_781 (fun H locs hP hD hS => ?_)
  have hP : va_P D vwCl ([(x0, .inr (6, fs)), (x1, .inl (c1, 91, .inr (.inl f1))), (q, .inl (cq, 91, .inl (upd (tbI fmL 27) (27 : Int32).toNatClampNeg (0 : Int32))))]) H := hP
  have hD : va_D A ([(x0, .inr (6, fs)), (x1, .inl (c1, 91, .inr (.inl f1))), (q, .inl (cq, 91, .inl (upd (tbI fmL 27) (27 : Int32).toNatClampNeg (0 : Int32))))]) := hD
  rw [tbI_s (k := 27) rfl rfl] at hP hD
  refine lv_dup hx hb d_D_init_782 rfl ?_
  refine lv_bipush (v := (28 : Int32)) hx hb d_D_init_783 (by decide) ?_
  refine lv_iconst (v := (0 : Int32)) hx hb d_D_init_785 (by decide) ?_
  refine va_iast hx hb hK hP hD hS 2 1 rfl rfl (by unfold vp_in; decide) d_D_init_786 (fun H locs hP hD hS => ?_)
  have hP : va_P D vwCl ([(x0, .inr (6, fs)), (x1, .inl (c1, 91, .inr (.inl f1))), (q, .inl (cq, 91, .inl (upd (tbI fmL 28) (28 : Int32).toNatClampNeg (0 : Int32))))]) H := hP
  have hD : va_D A ([(x0, .inr (6, fs)), (x1, .inl (c1, 91, .inr (.inl f1))), (q, .inl (cq, 91, .inl (upd (tbI fmL 28) (28 : Int32).toNatClampNeg (0 : Int32))))]) := hD
  rw [tbI_s (k := 28) rfl rfl] at hP hD
  refine lv_dup hx hb d_D_init_787 rfl ?_
  refine lv_bipush (v := (29 : Int32)) hx hb d_D_init_788 (by decide) ?_
  refine lv_iconst (v := (0 : Int32)) hx hb d_D_init_790 (by decide) ?_
  refine va_iast hx hb hK hP hD hS 2 1 rfl rfl (by unfold vp_in; decide) d_D_init_791 (fun H locs hP hD hS => ?_)
  have hP : va_P D vwCl ([(x0, .inr (6, fs)), (x1, .inl (c1, 91, .inr (.inl f1))), (q, .inl (cq, 91, .inl (upd (tbI fmL 29) (29 : Int32).toNatClampNeg (0 : Int32))))]) H := hP
  have hD : va_D A ([(x0, .inr (6, fs)), (x1, .inl (c1, 91, .inr (.inl f1))), (q, .inl (cq, 91, .inl (upd (tbI fmL 29) (29 : Int32).toNatClampNeg (0 : Int32))))]) := hD
  rw [tbI_s (k := 29) rfl rfl] at hP hD
  refine lv_dup hx hb d_D_init_792 rfl ?_
  refine lv_bipush (v := (30 : Int32)) hx hb d_D_init_793 (by decide) ?_
  refine lv_iconst (v := (0 : Int32)) hx hb d_D_init_795 (by decide) ?_
  refine va_iast hx hb hK hP hD hS 2 1 rfl rfl (by unfold vp_in; decide) d_D_init_796 (fun H locs hP hD hS => ?_)
  have hP : va_P D vwCl ([(x0, .inr (6, fs)), (x1, .inl (c1, 91, .inr (.inl f1))), (q, .inl (cq, 91, .inl (upd (tbI fmL 30) (30 : Int32).toNatClampNeg (0 : Int32))))]) H := hP
  have hD : va_D A ([(x0, .inr (6, fs)), (x1, .inl (c1, 91, .inr (.inl f1))), (q, .inl (cq, 91, .inl (upd (tbI fmL 30) (30 : Int32).toNatClampNeg (0 : Int32))))]) := hD
  rw [tbI_s (k := 30) rfl rfl] at hP hD
  refine lv_dup hx hb d_D_init_797 rfl ?_
  refine lv_bipush (v := (31 : Int32)) hx hb d_D_init_798 (by decide) ?_
  refine lv_iconst (v := (0 : Int32)) hx hb d_D_init_800 (by decide) ?_
  refine va_iast hx hb hK hP hD hS 2 1 rfl rfl (by unfold vp_in; decide) d_D_init_801 (fun H locs hP hD hS => ?_)
  have hP : va_P D vwCl ([(x0, .inr (6, fs)), (x1, .inl (c1, 91, .inr (.inl f1))), (q, .inl (cq, 91, .inl (upd (tbI fmL 31) (31 : Int32).toNatClampNeg (0 : Int32))))]) H := hP
  have hD : va_D A ([(x0, .inr (6, fs)), (x1, .inl (c1, 91, .inr (.inl f1))), (q, .inl (cq, 91, .inl (upd (tbI fmL 31) (31 : Int32).toNatClampNeg (0 : Int32))))]) := hD
  rw [tbI_s (k := 31) rfl rfl] at hP hD
  refine lv_dup hx hb d_D_init_802 rfl ?_
  refine lv_bipush (v := (32 : Int32)) hx hb d_D_init_803 (by decide) ?_
  refine lv_iconst (v := (0 : Int32)) hx hb d_D_init_805 (by decide) ?_
  refine va_iast hx hb hK hP hD hS 2 1 rfl rfl (by unfold vp_in; decide) d_D_init_806 (fun H locs hP hD hS => ?_)
  have hP : va_P D vwCl ([(x0, .inr (6, fs)), (x1, .inl (c1, 91, .inr (.inl f1))), (q, .inl (cq, 91, .inl (upd (tbI fmL 32) (32 : Int32).toNatClampNeg (0 : Int32))))]) H := hP
  have hD : va_D A ([(x0, .inr (6, fs)), (x1, .inl (c1, 91, .inr (.inl f1))), (q, .inl (cq, 91, .inl (upd (tbI fmL 32) (32 : Int32).toNatClampNeg (0 : Int32))))]) := hD
  rw [tbI_s (k := 32) rfl rfl] at hP hD
  refine lv_dup hx hb d_D_init_807 rfl ?_
  refine lv_bipush (v := (33 : Int32)) hx hb d_D_init_808 (by decide) ?_
  refine lv_iconst (v := (0 : Int32)) hx hb d_D_init_810 (by decide) ?_
  refine va_iast hx hb hK hP hD hS 2 1 rfl rfl (by unfold vp_in; decide) d_D_init_811 (fun H locs hP hD hS => ?_)
  have hP : va_P D vwCl ([(x0, .inr (6, fs)), (x1, .inl (c1, 91, .inr (.inl f1))), (q, .inl (cq, 91, .inl (upd (tbI fmL 33) (33 : Int32).toNatClampNeg (0 : Int32))))]) H := hP
  have hD : va_D A ([(x0, .inr (6, fs)), (x1, .inl (c1, 91, .inr (.inl f1))), (q, .inl (cq, 91, .inl (upd (tbI fmL 33) (33 : Int32).toNatClampNeg (0 : Int32))))]) := hD
  rw [tbI_s (k := 33) rfl rfl] at hP hD
  refine lv_dup hx hb d_D_init_812 rfl ?_
  refine lv_bipush (v := (34 : Int32)) hx hb d_D_init_813 (by decide) ?_
  refine lv_iconst (v := (0 : Int32)) hx hb d_D_init_815 (by decide) ?_
  refine va_iast hx hb hK hP hD hS 2 1 rfl rfl (by unfold vp_in; decide) d_D_init_816 (fun H locs hP hD hS => ?_)
  have hP : va_P D vwCl ([(x0, .inr (6, fs)), (x1, .inl (c1, 91, .inr (.inl f1))), (q, .inl (cq, 91, .inl (upd (tbI fmL 34) (34 : Int32).toNatClampNeg (0 : Int32))))]) H := hP
  have hD : va_D A ([(x0, .inr (6, fs)), (x1, .inl (c1, 91, .inr (.inl f1))), (q, .inl (cq, 91, .inl (upd (tbI fmL 34) (34 : Int32).toNatClampNeg (0 : Int32))))]) := hD
  rw [tbI_s (k := 34) rfl rfl] at hP hD
  refine lv_dup hx hb d_D_init_817 rfl ?_
  refine lv_bipush (v := (35 : Int32)) hx hb d_D_init_818 (by decide) ?_
  refine lv_iconst (v := (1 : Int32)) hx hb d_D_init_820 (by decide) ?_
  refine va_iast hx hb hK hP hD hS 2 1 rfl rfl (by unfold vp_in; decide) d_D_init_821 (fun H locs hP hD hS => ?_)
  have hP : va_P D vwCl ([(x0, .inr (6, fs)), (x1, .inl (c1, 91, .inr (.inl f1))), (q, .inl (cq, 91, .inl (upd (tbI fmL 35) (35 : Int32).toNatClampNeg (1 : Int32))))]) H := hP
  have hD : va_D A ([(x0, .inr (6, fs)), (x1, .inl (c1, 91, .inr (.inl f1))), (q, .inl (cq, 91, .inl (upd (tbI fmL 35) (35 : Int32).toNatClampNeg (1 : Int32))))]) := hD
  rw [tbI_s (k := 35) rfl rfl] at hP hD
  refine lv_dup hx hb d_D_init_822 rfl ?_
  refine lv_bipush (v := (36 : Int32)) hx hb d_D_init_823 (by decide) ?_
  refine lv_iconst (v := (2 : Int32)) hx hb d_D_init_825 (by decide) ?_
  refine va_iast hx hb hK hP hD hS 2 1 rfl rfl (by unfold vp_in; decide) d_D_init_826 (fun H locs hP hD hS => ?_)
  have hP : va_P D vwCl ([(x0, .inr (6, fs)), (x1, .inl (c1, 91, .inr (.inl f1))), (q, .inl (cq, 91, .inl (upd (tbI fmL 36) (36 : Int32).toNatClampNeg (2 : Int32))))]) H := hP
  have hD : va_D A ([(x0, .inr (6, fs)), (x1, .inl (c1, 91, .inr (.inl f1))), (q, .inl (cq, 91, .inl (upd (tbI fmL 36) (36 : Int32).toNatClampNeg (2 : Int32))))]) := hD
  rw [tbI_s (k := 36) rfl rfl] at hP hD
  refine lv_dup hx hb d_D_init_827 rfl ?_
  refine lv_bipush (v := (37 : Int32)) hx hb d_D_init_828 (by decide) ?_
  refine lv_iconst (v := (2 : Int32)) hx hb d_D_init_830 (by decide) ?_
  refine va_iast hx hb hK hP hD hS 2 1 rfl rfl (by unfold vp_in; decide) d_D_init_831 (fun H locs hP hD hS => ?_)
  have hP : va_P D vwCl ([(x0, .inr (6, fs)), (x1, .inl (c1, 91, .inr (.inl f1))), (q, .inl (cq, 91, .inl (upd (tbI fmL 37) (37 : Int32).toNatClampNeg (2 : Int32))))]) H := hP
  have hD : va_D A ([(x0, .inr (6, fs)), (x1, .inl (c1, 91, .inr (.inl f1))), (q, .inl (cq, 91, .inl (upd (tbI fmL 37) (37 : Int32).toNatClampNeg (2 : Int32))))]) := hD
  rw [tbI_s (k := 37) rfl rfl] at hP hD
  refine lv_dup hx hb d_D_init_832 rfl ?_
  refine lv_bipush (v := (38 : Int32)) hx hb d_D_init_833 (by decide) ?_
  refine lv_iconst (v := (2 : Int32)) hx hb d_D_init_835 (by decide) ?_
  refine va_iast hx hb hK hP hD hS 2 1 rfl rfl (by unfold vp_in; decide) d_D_init_836 (fun H locs hP hD hS => ?_)
  have hP : va_P D vwCl ([(x0, .inr (6, fs)), (x1, .inl (c1, 91, .inr (.inl f1))), (q, .inl (cq, 91, .inl (upd (tbI fmL 38) (38 : Int32).toNatClampNeg (2 : Int32))))]) H := hP
  have hD : va_D A ([(x0, .inr (6, fs)), (x1, .inl (c1, 91, .inr (.inl f1))), (q, .inl (cq, 91, .inl (upd (tbI fmL 38) (38 : Int32).toNatClampNeg (2 : Int32))))]) := hD
  rw [tbI_s (k := 38) rfl rfl] at hP hD
  exact kk H locs hP hD hS
set_option maxHeartbeats 4000000 in
set_option maxRecDepth 100000 in
theorem ch_D_init_837 {p : Program} {l : Launch} {e : Env} {R : Room} {s : State} {m : MethodId} {args : Array Value} {below : List Frame} {meth : Method} {c : Code} {H : Heap} {locs : List Loc} {cells slots : Nat} {Q : State → Prop} {ls : Array Slot} {D : va_G} {A : Nat → Prop} {fs : List Value} {x0 : Nat} {x1 : Nat} {c1 : ClassId} {f1 : Nat → Int64} {q : Nat} {cq : ClassId} {rest : List Value} (hx : p.tables.exec = Jvm.exec) (hb : c.code = c_D_init) (hown : s.vm.findClass "WindowMachineModel" = some m.cls) (ht : ∀ w9 ∈ zT, w9.before args s = true) (hK : va_K D vwCl [(c1, .long), (cq, .int)] s) (hP : va_P D vwCl [(x0, .inr (6, fs)), (x1, .inl (c1, 91, .inr (.inl f1))), (q, .inl (cq, 91, .inl (tbI fmL 39)))] H) (hD : va_D A [(x0, .inr (6, fs)), (x1, .inl (c1, 91, .inr (.inl f1))), (q, .inl (cq, 91, .inl (tbI fmL 39)))]) (hS : va_S A s.heap H locs)
    (kk : ∀ (H : Heap) (locs : List Loc), va_P D vwCl [(x0, .inr (6, fs)), (x1, .inl (c1, 91, .inr (.inl f1))), (q, .inl (cq, 91, .inl (tbI fmL 52)))] H → va_D A [(x0, .inr (6, fs)), (x1, .inl (c1, 91, .inr (.inl f1))), (q, .inl (cq, 91, .inl (tbI fmL 52)))] → va_S A s.heap H locs → W p l e R s m args below meth c H locs cells slots Q (F0 m 902 ls (.ref q :: rest))) : W p l e R s m args below meth c H locs cells slots Q (F0 m 837 ls (.ref q :: rest)) := by
  refine lv_dup hx hb d_D_init_837 rfl ?_
  refine lv_bipush (v := (39 : Int32)) hx hb d_D_init_838 (by decide) ?_
  refine lv_iconst (v := (2 : Int32)) hx hb d_D_init_840 (by decide) ?_
  refine va_iast hx hb hK hP hD hS 2 1 rfl rfl (by unfold vp_in; decide) d_D_init_841 (fun H locs hP hD hS => ?_)
  have hP : va_P D vwCl ([(x0, .inr (6, fs)), (x1, .inl (c1, 91, .inr (.inl f1))), (q, .inl (cq, 91, .inl (upd (tbI fmL 39) (39 : Int32).toNatClampNeg (2 : Int32))))]) H := hP
  have hD : va_D A ([(x0, .inr (6, fs)), (x1, .inl (c1, 91, .inr (.inl f1))), (q, .inl (cq, 91, .inl (upd (tbI fmL 39) (39 : Int32).toNatClampNeg (2 : Int32))))]) := hD
  rw [tbI_s (k := 39) rfl rfl] at hP hD
  refine lv_dup hx hb d_D_init_842 rfl ?_
  refine lv_bipush (v := (40 : Int32)) hx hb d_D_init_843 (by decide) ?_
  refine lv_iconst (v := (3 : Int32)) hx hb d_D_init_845 (by decide) ?_
  refine va_iast hx hb hK hP hD hS 2 1 rfl rfl (by unfold vp_in; decide) d_D_init_846 (fun H locs hP hD hS => ?_)
  have hP : va_P D vwCl ([(x0, .inr (6, fs)), (x1, .inl (c1, 91, .inr (.inl f1))), (q, .inl (cq, 91, .inl (upd (tbI fmL 40) (40 : Int32).toNatClampNeg (3 : Int32))))]) H := hP
  have hD : va_D A ([(x0, .inr (6, fs)), (x1, .inl (c1, 91, .inr (.inl f1))), (q, .inl (cq, 91, .inl (upd (tbI fmL 40) (40 : Int32).toNatClampNeg (3 : Int32))))]) := hD
  rw [tbI_s (k := 40) rfl rfl] at hP hD
  refine lv_dup hx hb d_D_init_847 rfl ?_
  refine lv_bipush (v := (41 : Int32)) hx hb d_D_init_848 (by decide) ?_
  refine lv_iconst (v := (3 : Int32)) hx hb d_D_init_850 (by decide) ?_
  refine va_iast hx hb hK hP hD hS 2 1 rfl rfl (by unfold vp_in; decide) d_D_init_851 (fun H locs hP hD hS => ?_)
  have hP : va_P D vwCl ([(x0, .inr (6, fs)), (x1, .inl (c1, 91, .inr (.inl f1))), (q, .inl (cq, 91, .inl (upd (tbI fmL 41) (41 : Int32).toNatClampNeg (3 : Int32))))]) H := hP
  have hD : va_D A ([(x0, .inr (6, fs)), (x1, .inl (c1, 91, .inr (.inl f1))), (q, .inl (cq, 91, .inl (upd (tbI fmL 41) (41 : Int32).toNatClampNeg (3 : Int32))))]) := hD
  rw [tbI_s (k := 41) rfl rfl] at hP hD
  refine lv_dup hx hb d_D_init_852 rfl ?_
  refine lv_bipush (v := (42 : Int32)) hx hb d_D_init_853 (by decide) ?_
  refine lv_iconst (v := (3 : Int32)) hx hb d_D_init_855 (by decide) ?_
  refine va_iast hx hb hK hP hD hS 2 1 rfl rfl (by unfold vp_in; decide) d_D_init_856 (fun H locs hP hD hS => ?_)
  have hP : va_P D vwCl ([(x0, .inr (6, fs)), (x1, .inl (c1, 91, .inr (.inl f1))), (q, .inl (cq, 91, .inl (upd (tbI fmL 42) (42 : Int32).toNatClampNeg (3 : Int32))))]) H := hP
  have hD : va_D A ([(x0, .inr (6, fs)), (x1, .inl (c1, 91, .inr (.inl f1))), (q, .inl (cq, 91, .inl (upd (tbI fmL 42) (42 : Int32).toNatClampNeg (3 : Int32))))]) := hD
  rw [tbI_s (k := 42) rfl rfl] at hP hD
  refine lv_dup hx hb d_D_init_857 rfl ?_
  refine lv_bipush (v := (43 : Int32)) hx hb d_D_init_858 (by decide) ?_
  refine lv_iconst (v := (3 : Int32)) hx hb d_D_init_860 (by decide) ?_
  refine va_iast hx hb hK hP hD hS 2 1 rfl rfl (by unfold vp_in; decide) d_D_init_861 (fun H locs hP hD hS => ?_)
  have hP : va_P D vwCl ([(x0, .inr (6, fs)), (x1, .inl (c1, 91, .inr (.inl f1))), (q, .inl (cq, 91, .inl (upd (tbI fmL 43) (43 : Int32).toNatClampNeg (3 : Int32))))]) H := hP
  have hD : va_D A ([(x0, .inr (6, fs)), (x1, .inl (c1, 91, .inr (.inl f1))), (q, .inl (cq, 91, .inl (upd (tbI fmL 43) (43 : Int32).toNatClampNeg (3 : Int32))))]) := hD
  rw [tbI_s (k := 43) rfl rfl] at hP hD
  refine lv_dup hx hb d_D_init_862 rfl ?_
  refine lv_bipush (v := (44 : Int32)) hx hb d_D_init_863 (by decide) ?_
  refine lv_iconst (v := (3 : Int32)) hx hb d_D_init_865 (by decide) ?_
  refine va_iast hx hb hK hP hD hS 2 1 rfl rfl (by unfold vp_in; decide) d_D_init_866 (fun H locs hP hD hS => ?_)
  have hP : va_P D vwCl ([(x0, .inr (6, fs)), (x1, .inl (c1, 91, .inr (.inl f1))), (q, .inl (cq, 91, .inl (upd (tbI fmL 44) (44 : Int32).toNatClampNeg (3 : Int32))))]) H := hP
  have hD : va_D A ([(x0, .inr (6, fs)), (x1, .inl (c1, 91, .inr (.inl f1))), (q, .inl (cq, 91, .inl (upd (tbI fmL 44) (44 : Int32).toNatClampNeg (3 : Int32))))]) := hD
  rw [tbI_s (k := 44) rfl rfl] at hP hD
  refine lv_dup hx hb d_D_init_867 rfl ?_
  refine lv_bipush (v := (45 : Int32)) hx hb d_D_init_868 (by decide) ?_
  refine lv_iconst (v := (4 : Int32)) hx hb d_D_init_870 (by decide) ?_
  refine va_iast hx hb hK hP hD hS 2 1 rfl rfl (by unfold vp_in; decide) d_D_init_871 (fun H locs hP hD hS => ?_)
  have hP : va_P D vwCl ([(x0, .inr (6, fs)), (x1, .inl (c1, 91, .inr (.inl f1))), (q, .inl (cq, 91, .inl (upd (tbI fmL 45) (45 : Int32).toNatClampNeg (4 : Int32))))]) H := hP
  have hD : va_D A ([(x0, .inr (6, fs)), (x1, .inl (c1, 91, .inr (.inl f1))), (q, .inl (cq, 91, .inl (upd (tbI fmL 45) (45 : Int32).toNatClampNeg (4 : Int32))))]) := hD
  rw [tbI_s (k := 45) rfl rfl] at hP hD
  refine lv_dup hx hb d_D_init_872 rfl ?_
  refine lv_bipush (v := (46 : Int32)) hx hb d_D_init_873 (by decide) ?_
  refine lv_iconst (v := (5 : Int32)) hx hb d_D_init_875 (by decide) ?_
  refine va_iast hx hb hK hP hD hS 2 1 rfl rfl (by unfold vp_in; decide) d_D_init_876 (fun H locs hP hD hS => ?_)
  have hP : va_P D vwCl ([(x0, .inr (6, fs)), (x1, .inl (c1, 91, .inr (.inl f1))), (q, .inl (cq, 91, .inl (upd (tbI fmL 46) (46 : Int32).toNatClampNeg (5 : Int32))))]) H := hP
  have hD : va_D A ([(x0, .inr (6, fs)), (x1, .inl (c1, 91, .inr (.inl f1))), (q, .inl (cq, 91, .inl (upd (tbI fmL 46) (46 : Int32).toNatClampNeg (5 : Int32))))]) := hD
  rw [tbI_s (k := 46) rfl rfl] at hP hD
  refine lv_dup hx hb d_D_init_877 rfl ?_
  refine lv_bipush (v := (47 : Int32)) hx hb d_D_init_878 (by decide) ?_
  refine lv_iconst (v := (3 : Int32)) hx hb d_D_init_880 (by decide) ?_
  refine va_iast hx hb hK hP hD hS 2 1 rfl rfl (by unfold vp_in; decide) d_D_init_881 (fun H locs hP hD hS => ?_)
  have hP : va_P D vwCl ([(x0, .inr (6, fs)), (x1, .inl (c1, 91, .inr (.inl f1))), (q, .inl (cq, 91, .inl (upd (tbI fmL 47) (47 : Int32).toNatClampNeg (3 : Int32))))]) H := hP
  have hD : va_D A ([(x0, .inr (6, fs)), (x1, .inl (c1, 91, .inr (.inl f1))), (q, .inl (cq, 91, .inl (upd (tbI fmL 47) (47 : Int32).toNatClampNeg (3 : Int32))))]) := hD
  rw [tbI_s (k := 47) rfl rfl] at hP hD
  refine lv_dup hx hb d_D_init_882 rfl ?_
  refine lv_bipush (v := (48 : Int32)) hx hb d_D_init_883 (by decide) ?_
  refine lv_iconst (v := (5 : Int32)) hx hb d_D_init_885 (by decide) ?_
  refine va_iast hx hb hK hP hD hS 2 1 rfl rfl (by unfold vp_in; decide) d_D_init_886 (fun H locs hP hD hS => ?_)
  have hP : va_P D vwCl ([(x0, .inr (6, fs)), (x1, .inl (c1, 91, .inr (.inl f1))), (q, .inl (cq, 91, .inl (upd (tbI fmL 48) (48 : Int32).toNatClampNeg (5 : Int32))))]) H := hP
  have hD : va_D A ([(x0, .inr (6, fs)), (x1, .inl (c1, 91, .inr (.inl f1))), (q, .inl (cq, 91, .inl (upd (tbI fmL 48) (48 : Int32).toNatClampNeg (5 : Int32))))]) := hD
  rw [tbI_s (k := 48) rfl rfl] at hP hD
  refine lv_dup hx hb d_D_init_887 rfl ?_
  refine lv_bipush (v := (49 : Int32)) hx hb d_D_init_888 (by decide) ?_
  refine lv_iconst (v := (3 : Int32)) hx hb d_D_init_890 (by decide) ?_
  refine va_iast hx hb hK hP hD hS 2 1 rfl rfl (by unfold vp_in; decide) d_D_init_891 (fun H locs hP hD hS => ?_)
  have hP : va_P D vwCl ([(x0, .inr (6, fs)), (x1, .inl (c1, 91, .inr (.inl f1))), (q, .inl (cq, 91, .inl (upd (tbI fmL 49) (49 : Int32).toNatClampNeg (3 : Int32))))]) H := hP
  have hD : va_D A ([(x0, .inr (6, fs)), (x1, .inl (c1, 91, .inr (.inl f1))), (q, .inl (cq, 91, .inl (upd (tbI fmL 49) (49 : Int32).toNatClampNeg (3 : Int32))))]) := hD
  rw [tbI_s (k := 49) rfl rfl] at hP hD
  refine lv_dup hx hb d_D_init_892 rfl ?_
  refine lv_bipush (v := (50 : Int32)) hx hb d_D_init_893 (by decide) ?_
  refine lv_iconst (v := (5 : Int32)) hx hb d_D_init_895 (by decide) ?_
  refine va_iast hx hb hK hP hD hS 2 1 rfl rfl (by unfold vp_in; decide) d_D_init_896 (fun H locs hP hD hS => ?_)
  have hP : va_P D vwCl ([(x0, .inr (6, fs)), (x1, .inl (c1, 91, .inr (.inl f1))), (q, .inl (cq, 91, .inl (upd (tbI fmL 50) (50 : Int32).toNatClampNeg (5 : Int32))))]) H := hP
  have hD : va_D A ([(x0, .inr (6, fs)), (x1, .inl (c1, 91, .inr (.inl f1))), (q, .inl (cq, 91, .inl (upd (tbI fmL 50) (50 : Int32).toNatClampNeg (5 : Int32))))]) := hD
  rw [tbI_s (k := 50) rfl rfl] at hP hD
  refine lv_dup hx hb d_D_init_897 rfl ?_
  refine lv_bipush (v := (51 : Int32)) hx hb d_D_init_898 (by decide) ?_
  refine lv_iconst (v := (3 : Int32)) hx hb d_D_init_900 (by decide) ?_
  refine va_iast hx hb hK hP hD hS 2 1 rfl rfl (by unfold vp_in; decide) d_D_init_901 (fun H locs hP hD hS => ?_)
  have hP : va_P D vwCl ([(x0, .inr (6, fs)), (x1, .inl (c1, 91, .inr (.inl f1))), (q, .inl (cq, 91, .inl (upd (tbI fmL 51) (51 : Int32).toNatClampNeg (3 : Int32))))]) H := hP
  have hD : va_D A ([(x0, .inr (6, fs)), (x1, .inl (c1, 91, .inr (.inl f1))), (q, .inl (cq, 91, .inl (upd (tbI fmL 51) (51 : Int32).toNatClampNeg (3 : Int32))))]) := hD
  rw [tbI_s (k := 51) rfl rfl] at hP hD
  exact kk H locs hP hD hS
set_option maxHeartbeats 4000000 in
set_option maxRecDepth 100000 in
theorem ch_D_init_902 {p : Program} {l : Launch} {e : Env} {R : Room} {s : State} {m : MethodId} {args : Array Value} {below : List Frame} {meth : Method} {c : Code} {H : Heap} {locs : List Loc} {cells slots : Nat} {Q : State → Prop} {ls : Array Slot} {D : va_G} {A : Nat → Prop} {fs : List Value} {x0 : Nat} {x1 : Nat} {c1 : ClassId} {f1 : Nat → Int64} {q : Nat} {cq : ClassId} {rest : List Value} (hx : p.tables.exec = Jvm.exec) (hb : c.code = c_D_init) (hown : s.vm.findClass "WindowMachineModel" = some m.cls) (ht : ∀ w9 ∈ zT, w9.before args s = true) (hK : va_K D vwCl [(c1, .long), (cq, .int)] s) (hP : va_P D vwCl [(x0, .inr (6, fs)), (x1, .inl (c1, 91, .inr (.inl f1))), (q, .inl (cq, 91, .inl (tbI fmL 52)))] H) (hD : va_D A [(x0, .inr (6, fs)), (x1, .inl (c1, 91, .inr (.inl f1))), (q, .inl (cq, 91, .inl (tbI fmL 52)))]) (hS : va_S A s.heap H locs)
    (kk : ∀ (H : Heap) (locs : List Loc), va_P D vwCl [(x0, .inr (6, fs)), (x1, .inl (c1, 91, .inr (.inl f1))), (q, .inl (cq, 91, .inl (tbI fmL 65)))] H → va_D A [(x0, .inr (6, fs)), (x1, .inl (c1, 91, .inr (.inl f1))), (q, .inl (cq, 91, .inl (tbI fmL 65)))] → va_S A s.heap H locs → W p l e R s m args below meth c H locs cells slots Q (F0 m 967 ls (.ref q :: rest))) : W p l e R s m args below meth c H locs cells slots Q (F0 m 902 ls (.ref q :: rest)) := by
  refine lv_dup hx hb d_D_init_902 rfl ?_
  refine lv_bipush (v := (52 : Int32)) hx hb d_D_init_903 (by decide) ?_
  refine lv_iconst (v := (5 : Int32)) hx hb d_D_init_905 (by decide) ?_
  refine va_iast hx hb hK hP hD hS 2 1 rfl rfl (by unfold vp_in; decide) d_D_init_906 (fun H locs hP hD hS => ?_)
  have hP : va_P D vwCl ([(x0, .inr (6, fs)), (x1, .inl (c1, 91, .inr (.inl f1))), (q, .inl (cq, 91, .inl (upd (tbI fmL 52) (52 : Int32).toNatClampNeg (5 : Int32))))]) H := hP
  have hD : va_D A ([(x0, .inr (6, fs)), (x1, .inl (c1, 91, .inr (.inl f1))), (q, .inl (cq, 91, .inl (upd (tbI fmL 52) (52 : Int32).toNatClampNeg (5 : Int32))))]) := hD
  rw [tbI_s (k := 52) rfl rfl] at hP hD
  refine lv_dup hx hb d_D_init_907 rfl ?_
  refine lv_bipush (v := (53 : Int32)) hx hb d_D_init_908 (by decide) ?_
  refine lv_iconst (v := (3 : Int32)) hx hb d_D_init_910 (by decide) ?_
  refine va_iast hx hb hK hP hD hS 2 1 rfl rfl (by unfold vp_in; decide) d_D_init_911 (fun H locs hP hD hS => ?_)
  have hP : va_P D vwCl ([(x0, .inr (6, fs)), (x1, .inl (c1, 91, .inr (.inl f1))), (q, .inl (cq, 91, .inl (upd (tbI fmL 53) (53 : Int32).toNatClampNeg (3 : Int32))))]) H := hP
  have hD : va_D A ([(x0, .inr (6, fs)), (x1, .inl (c1, 91, .inr (.inl f1))), (q, .inl (cq, 91, .inl (upd (tbI fmL 53) (53 : Int32).toNatClampNeg (3 : Int32))))]) := hD
  rw [tbI_s (k := 53) rfl rfl] at hP hD
  refine lv_dup hx hb d_D_init_912 rfl ?_
  refine lv_bipush (v := (54 : Int32)) hx hb d_D_init_913 (by decide) ?_
  refine lv_iconst (v := (5 : Int32)) hx hb d_D_init_915 (by decide) ?_
  refine va_iast hx hb hK hP hD hS 2 1 rfl rfl (by unfold vp_in; decide) d_D_init_916 (fun H locs hP hD hS => ?_)
  have hP : va_P D vwCl ([(x0, .inr (6, fs)), (x1, .inl (c1, 91, .inr (.inl f1))), (q, .inl (cq, 91, .inl (upd (tbI fmL 54) (54 : Int32).toNatClampNeg (5 : Int32))))]) H := hP
  have hD : va_D A ([(x0, .inr (6, fs)), (x1, .inl (c1, 91, .inr (.inl f1))), (q, .inl (cq, 91, .inl (upd (tbI fmL 54) (54 : Int32).toNatClampNeg (5 : Int32))))]) := hD
  rw [tbI_s (k := 54) rfl rfl] at hP hD
  refine lv_dup hx hb d_D_init_917 rfl ?_
  refine lv_bipush (v := (55 : Int32)) hx hb d_D_init_918 (by decide) ?_
  refine lv_iconst (v := (3 : Int32)) hx hb d_D_init_920 (by decide) ?_
  refine va_iast hx hb hK hP hD hS 2 1 rfl rfl (by unfold vp_in; decide) d_D_init_921 (fun H locs hP hD hS => ?_)
  have hP : va_P D vwCl ([(x0, .inr (6, fs)), (x1, .inl (c1, 91, .inr (.inl f1))), (q, .inl (cq, 91, .inl (upd (tbI fmL 55) (55 : Int32).toNatClampNeg (3 : Int32))))]) H := hP
  have hD : va_D A ([(x0, .inr (6, fs)), (x1, .inl (c1, 91, .inr (.inl f1))), (q, .inl (cq, 91, .inl (upd (tbI fmL 55) (55 : Int32).toNatClampNeg (3 : Int32))))]) := hD
  rw [tbI_s (k := 55) rfl rfl] at hP hD
  refine lv_dup hx hb d_D_init_922 rfl ?_
  refine lv_bipush (v := (56 : Int32)) hx hb d_D_init_923 (by decide) ?_
  refine lv_iconst (v := (5 : Int32)) hx hb d_D_init_925 (by decide) ?_
  refine va_iast hx hb hK hP hD hS 2 1 rfl rfl (by unfold vp_in; decide) d_D_init_926 (fun H locs hP hD hS => ?_)
  have hP : va_P D vwCl ([(x0, .inr (6, fs)), (x1, .inl (c1, 91, .inr (.inl f1))), (q, .inl (cq, 91, .inl (upd (tbI fmL 56) (56 : Int32).toNatClampNeg (5 : Int32))))]) H := hP
  have hD : va_D A ([(x0, .inr (6, fs)), (x1, .inl (c1, 91, .inr (.inl f1))), (q, .inl (cq, 91, .inl (upd (tbI fmL 56) (56 : Int32).toNatClampNeg (5 : Int32))))]) := hD
  rw [tbI_s (k := 56) rfl rfl] at hP hD
  refine lv_dup hx hb d_D_init_927 rfl ?_
  refine lv_bipush (v := (57 : Int32)) hx hb d_D_init_928 (by decide) ?_
  refine lv_iconst (v := (3 : Int32)) hx hb d_D_init_930 (by decide) ?_
  refine va_iast hx hb hK hP hD hS 2 1 rfl rfl (by unfold vp_in; decide) d_D_init_931 (fun H locs hP hD hS => ?_)
  have hP : va_P D vwCl ([(x0, .inr (6, fs)), (x1, .inl (c1, 91, .inr (.inl f1))), (q, .inl (cq, 91, .inl (upd (tbI fmL 57) (57 : Int32).toNatClampNeg (3 : Int32))))]) H := hP
  have hD : va_D A ([(x0, .inr (6, fs)), (x1, .inl (c1, 91, .inr (.inl f1))), (q, .inl (cq, 91, .inl (upd (tbI fmL 57) (57 : Int32).toNatClampNeg (3 : Int32))))]) := hD
  rw [tbI_s (k := 57) rfl rfl] at hP hD
  refine lv_dup hx hb d_D_init_932 rfl ?_
  refine lv_bipush (v := (58 : Int32)) hx hb d_D_init_933 (by decide) ?_
  refine lv_iconst (v := (5 : Int32)) hx hb d_D_init_935 (by decide) ?_
  refine va_iast hx hb hK hP hD hS 2 1 rfl rfl (by unfold vp_in; decide) d_D_init_936 (fun H locs hP hD hS => ?_)
  have hP : va_P D vwCl ([(x0, .inr (6, fs)), (x1, .inl (c1, 91, .inr (.inl f1))), (q, .inl (cq, 91, .inl (upd (tbI fmL 58) (58 : Int32).toNatClampNeg (5 : Int32))))]) H := hP
  have hD : va_D A ([(x0, .inr (6, fs)), (x1, .inl (c1, 91, .inr (.inl f1))), (q, .inl (cq, 91, .inl (upd (tbI fmL 58) (58 : Int32).toNatClampNeg (5 : Int32))))]) := hD
  rw [tbI_s (k := 58) rfl rfl] at hP hD
  refine lv_dup hx hb d_D_init_937 rfl ?_
  refine lv_bipush (v := (59 : Int32)) hx hb d_D_init_938 (by decide) ?_
  refine lv_iconst (v := (3 : Int32)) hx hb d_D_init_940 (by decide) ?_
  refine va_iast hx hb hK hP hD hS 2 1 rfl rfl (by unfold vp_in; decide) d_D_init_941 (fun H locs hP hD hS => ?_)
  have hP : va_P D vwCl ([(x0, .inr (6, fs)), (x1, .inl (c1, 91, .inr (.inl f1))), (q, .inl (cq, 91, .inl (upd (tbI fmL 59) (59 : Int32).toNatClampNeg (3 : Int32))))]) H := hP
  have hD : va_D A ([(x0, .inr (6, fs)), (x1, .inl (c1, 91, .inr (.inl f1))), (q, .inl (cq, 91, .inl (upd (tbI fmL 59) (59 : Int32).toNatClampNeg (3 : Int32))))]) := hD
  rw [tbI_s (k := 59) rfl rfl] at hP hD
  refine lv_dup hx hb d_D_init_942 rfl ?_
  refine lv_bipush (v := (60 : Int32)) hx hb d_D_init_943 (by decide) ?_
  refine lv_iconst (v := (5 : Int32)) hx hb d_D_init_945 (by decide) ?_
  refine va_iast hx hb hK hP hD hS 2 1 rfl rfl (by unfold vp_in; decide) d_D_init_946 (fun H locs hP hD hS => ?_)
  have hP : va_P D vwCl ([(x0, .inr (6, fs)), (x1, .inl (c1, 91, .inr (.inl f1))), (q, .inl (cq, 91, .inl (upd (tbI fmL 60) (60 : Int32).toNatClampNeg (5 : Int32))))]) H := hP
  have hD : va_D A ([(x0, .inr (6, fs)), (x1, .inl (c1, 91, .inr (.inl f1))), (q, .inl (cq, 91, .inl (upd (tbI fmL 60) (60 : Int32).toNatClampNeg (5 : Int32))))]) := hD
  rw [tbI_s (k := 60) rfl rfl] at hP hD
  refine lv_dup hx hb d_D_init_947 rfl ?_
  refine lv_bipush (v := (61 : Int32)) hx hb d_D_init_948 (by decide) ?_
  refine lv_iconst (v := (3 : Int32)) hx hb d_D_init_950 (by decide) ?_
  refine va_iast hx hb hK hP hD hS 2 1 rfl rfl (by unfold vp_in; decide) d_D_init_951 (fun H locs hP hD hS => ?_)
  have hP : va_P D vwCl ([(x0, .inr (6, fs)), (x1, .inl (c1, 91, .inr (.inl f1))), (q, .inl (cq, 91, .inl (upd (tbI fmL 61) (61 : Int32).toNatClampNeg (3 : Int32))))]) H := hP
  have hD : va_D A ([(x0, .inr (6, fs)), (x1, .inl (c1, 91, .inr (.inl f1))), (q, .inl (cq, 91, .inl (upd (tbI fmL 61) (61 : Int32).toNatClampNeg (3 : Int32))))]) := hD
  rw [tbI_s (k := 61) rfl rfl] at hP hD
  refine lv_dup hx hb d_D_init_952 rfl ?_
  refine lv_bipush (v := (62 : Int32)) hx hb d_D_init_953 (by decide) ?_
  refine lv_iconst (v := (5 : Int32)) hx hb d_D_init_955 (by decide) ?_
  refine va_iast hx hb hK hP hD hS 2 1 rfl rfl (by unfold vp_in; decide) d_D_init_956 (fun H locs hP hD hS => ?_)
  have hP : va_P D vwCl ([(x0, .inr (6, fs)), (x1, .inl (c1, 91, .inr (.inl f1))), (q, .inl (cq, 91, .inl (upd (tbI fmL 62) (62 : Int32).toNatClampNeg (5 : Int32))))]) H := hP
  have hD : va_D A ([(x0, .inr (6, fs)), (x1, .inl (c1, 91, .inr (.inl f1))), (q, .inl (cq, 91, .inl (upd (tbI fmL 62) (62 : Int32).toNatClampNeg (5 : Int32))))]) := hD
  rw [tbI_s (k := 62) rfl rfl] at hP hD
  refine lv_dup hx hb d_D_init_957 rfl ?_
  refine lv_bipush (v := (63 : Int32)) hx hb d_D_init_958 (by decide) ?_
  refine lv_iconst (v := (3 : Int32)) hx hb d_D_init_960 (by decide) ?_
  refine va_iast hx hb hK hP hD hS 2 1 rfl rfl (by unfold vp_in; decide) d_D_init_961 (fun H locs hP hD hS => ?_)
  have hP : va_P D vwCl ([(x0, .inr (6, fs)), (x1, .inl (c1, 91, .inr (.inl f1))), (q, .inl (cq, 91, .inl (upd (tbI fmL 63) (63 : Int32).toNatClampNeg (3 : Int32))))]) H := hP
  have hD : va_D A ([(x0, .inr (6, fs)), (x1, .inl (c1, 91, .inr (.inl f1))), (q, .inl (cq, 91, .inl (upd (tbI fmL 63) (63 : Int32).toNatClampNeg (3 : Int32))))]) := hD
  rw [tbI_s (k := 63) rfl rfl] at hP hD
  refine lv_dup hx hb d_D_init_962 rfl ?_
  refine lv_bipush (v := (64 : Int32)) hx hb d_D_init_963 (by decide) ?_
  refine lv_iconst (v := (5 : Int32)) hx hb d_D_init_965 (by decide) ?_
  refine va_iast hx hb hK hP hD hS 2 1 rfl rfl (by unfold vp_in; decide) d_D_init_966 (fun H locs hP hD hS => ?_)
  have hP : va_P D vwCl ([(x0, .inr (6, fs)), (x1, .inl (c1, 91, .inr (.inl f1))), (q, .inl (cq, 91, .inl (upd (tbI fmL 64) (64 : Int32).toNatClampNeg (5 : Int32))))]) H := hP
  have hD : va_D A ([(x0, .inr (6, fs)), (x1, .inl (c1, 91, .inr (.inl f1))), (q, .inl (cq, 91, .inl (upd (tbI fmL 64) (64 : Int32).toNatClampNeg (5 : Int32))))]) := hD
  rw [tbI_s (k := 64) rfl rfl] at hP hD
  exact kk H locs hP hD hS
set_option maxHeartbeats 4000000 in
set_option maxRecDepth 100000 in
theorem ch_D_init_967 {p : Program} {l : Launch} {e : Env} {R : Room} {s : State} {m : MethodId} {args : Array Value} {below : List Frame} {meth : Method} {c : Code} {H : Heap} {locs : List Loc} {cells slots : Nat} {Q : State → Prop} {ls : Array Slot} {D : va_G} {A : Nat → Prop} {fs : List Value} {x0 : Nat} {x1 : Nat} {c1 : ClassId} {f1 : Nat → Int64} {q : Nat} {cq : ClassId} {rest : List Value} (hx : p.tables.exec = Jvm.exec) (hb : c.code = c_D_init) (hown : s.vm.findClass "WindowMachineModel" = some m.cls) (ht : ∀ w9 ∈ zT, w9.before args s = true) (hK : va_K D vwCl [(c1, .long), (cq, .int)] s) (hP : va_P D vwCl [(x0, .inr (6, fs)), (x1, .inl (c1, 91, .inr (.inl f1))), (q, .inl (cq, 91, .inl (tbI fmL 65)))] H) (hD : va_D A [(x0, .inr (6, fs)), (x1, .inl (c1, 91, .inr (.inl f1))), (q, .inl (cq, 91, .inl (tbI fmL 65)))]) (hS : va_S A s.heap H locs)
    (kk : ∀ (H : Heap) (locs : List Loc), va_P D vwCl [(x0, .inr (6, fs)), (x1, .inl (c1, 91, .inr (.inl f1))), (q, .inl (cq, 91, .inl (tbI fmL 78)))] H → va_D A [(x0, .inr (6, fs)), (x1, .inl (c1, 91, .inr (.inl f1))), (q, .inl (cq, 91, .inl (tbI fmL 78)))] → va_S A s.heap H locs → W p l e R s m args below meth c H locs cells slots Q (F0 m 1032 ls (.ref q :: rest))) : W p l e R s m args below meth c H locs cells slots Q (F0 m 967 ls (.ref q :: rest)) := by
  refine lv_dup hx hb d_D_init_967 rfl ?_
  refine lv_bipush (v := (65 : Int32)) hx hb d_D_init_968 (by decide) ?_
  refine lv_iconst (v := (3 : Int32)) hx hb d_D_init_970 (by decide) ?_
  refine va_iast hx hb hK hP hD hS 2 1 rfl rfl (by unfold vp_in; decide) d_D_init_971 (fun H locs hP hD hS => ?_)
  have hP : va_P D vwCl ([(x0, .inr (6, fs)), (x1, .inl (c1, 91, .inr (.inl f1))), (q, .inl (cq, 91, .inl (upd (tbI fmL 65) (65 : Int32).toNatClampNeg (3 : Int32))))]) H := hP
  have hD : va_D A ([(x0, .inr (6, fs)), (x1, .inl (c1, 91, .inr (.inl f1))), (q, .inl (cq, 91, .inl (upd (tbI fmL 65) (65 : Int32).toNatClampNeg (3 : Int32))))]) := hD
  rw [tbI_s (k := 65) rfl rfl] at hP hD
  refine lv_dup hx hb d_D_init_972 rfl ?_
  refine lv_bipush (v := (66 : Int32)) hx hb d_D_init_973 (by decide) ?_
  refine lv_iconst (v := (5 : Int32)) hx hb d_D_init_975 (by decide) ?_
  refine va_iast hx hb hK hP hD hS 2 1 rfl rfl (by unfold vp_in; decide) d_D_init_976 (fun H locs hP hD hS => ?_)
  have hP : va_P D vwCl ([(x0, .inr (6, fs)), (x1, .inl (c1, 91, .inr (.inl f1))), (q, .inl (cq, 91, .inl (upd (tbI fmL 66) (66 : Int32).toNatClampNeg (5 : Int32))))]) H := hP
  have hD : va_D A ([(x0, .inr (6, fs)), (x1, .inl (c1, 91, .inr (.inl f1))), (q, .inl (cq, 91, .inl (upd (tbI fmL 66) (66 : Int32).toNatClampNeg (5 : Int32))))]) := hD
  rw [tbI_s (k := 66) rfl rfl] at hP hD
  refine lv_dup hx hb d_D_init_977 rfl ?_
  refine lv_bipush (v := (67 : Int32)) hx hb d_D_init_978 (by decide) ?_
  refine lv_iconst (v := (3 : Int32)) hx hb d_D_init_980 (by decide) ?_
  refine va_iast hx hb hK hP hD hS 2 1 rfl rfl (by unfold vp_in; decide) d_D_init_981 (fun H locs hP hD hS => ?_)
  have hP : va_P D vwCl ([(x0, .inr (6, fs)), (x1, .inl (c1, 91, .inr (.inl f1))), (q, .inl (cq, 91, .inl (upd (tbI fmL 67) (67 : Int32).toNatClampNeg (3 : Int32))))]) H := hP
  have hD : va_D A ([(x0, .inr (6, fs)), (x1, .inl (c1, 91, .inr (.inl f1))), (q, .inl (cq, 91, .inl (upd (tbI fmL 67) (67 : Int32).toNatClampNeg (3 : Int32))))]) := hD
  rw [tbI_s (k := 67) rfl rfl] at hP hD
  refine lv_dup hx hb d_D_init_982 rfl ?_
  refine lv_bipush (v := (68 : Int32)) hx hb d_D_init_983 (by decide) ?_
  refine lv_iconst (v := (5 : Int32)) hx hb d_D_init_985 (by decide) ?_
  refine va_iast hx hb hK hP hD hS 2 1 rfl rfl (by unfold vp_in; decide) d_D_init_986 (fun H locs hP hD hS => ?_)
  have hP : va_P D vwCl ([(x0, .inr (6, fs)), (x1, .inl (c1, 91, .inr (.inl f1))), (q, .inl (cq, 91, .inl (upd (tbI fmL 68) (68 : Int32).toNatClampNeg (5 : Int32))))]) H := hP
  have hD : va_D A ([(x0, .inr (6, fs)), (x1, .inl (c1, 91, .inr (.inl f1))), (q, .inl (cq, 91, .inl (upd (tbI fmL 68) (68 : Int32).toNatClampNeg (5 : Int32))))]) := hD
  rw [tbI_s (k := 68) rfl rfl] at hP hD
  refine lv_dup hx hb d_D_init_987 rfl ?_
  refine lv_bipush (v := (69 : Int32)) hx hb d_D_init_988 (by decide) ?_
  refine lv_iconst (v := (3 : Int32)) hx hb d_D_init_990 (by decide) ?_
  refine va_iast hx hb hK hP hD hS 2 1 rfl rfl (by unfold vp_in; decide) d_D_init_991 (fun H locs hP hD hS => ?_)
  have hP : va_P D vwCl ([(x0, .inr (6, fs)), (x1, .inl (c1, 91, .inr (.inl f1))), (q, .inl (cq, 91, .inl (upd (tbI fmL 69) (69 : Int32).toNatClampNeg (3 : Int32))))]) H := hP
  have hD : va_D A ([(x0, .inr (6, fs)), (x1, .inl (c1, 91, .inr (.inl f1))), (q, .inl (cq, 91, .inl (upd (tbI fmL 69) (69 : Int32).toNatClampNeg (3 : Int32))))]) := hD
  rw [tbI_s (k := 69) rfl rfl] at hP hD
  refine lv_dup hx hb d_D_init_992 rfl ?_
  refine lv_bipush (v := (70 : Int32)) hx hb d_D_init_993 (by decide) ?_
  refine lv_iconst (v := (5 : Int32)) hx hb d_D_init_995 (by decide) ?_
  refine va_iast hx hb hK hP hD hS 2 1 rfl rfl (by unfold vp_in; decide) d_D_init_996 (fun H locs hP hD hS => ?_)
  have hP : va_P D vwCl ([(x0, .inr (6, fs)), (x1, .inl (c1, 91, .inr (.inl f1))), (q, .inl (cq, 91, .inl (upd (tbI fmL 70) (70 : Int32).toNatClampNeg (5 : Int32))))]) H := hP
  have hD : va_D A ([(x0, .inr (6, fs)), (x1, .inl (c1, 91, .inr (.inl f1))), (q, .inl (cq, 91, .inl (upd (tbI fmL 70) (70 : Int32).toNatClampNeg (5 : Int32))))]) := hD
  rw [tbI_s (k := 70) rfl rfl] at hP hD
  refine lv_dup hx hb d_D_init_997 rfl ?_
  refine lv_bipush (v := (71 : Int32)) hx hb d_D_init_998 (by decide) ?_
  refine lv_iconst (v := (3 : Int32)) hx hb d_D_init_1000 (by decide) ?_
  refine va_iast hx hb hK hP hD hS 2 1 rfl rfl (by unfold vp_in; decide) d_D_init_1001 (fun H locs hP hD hS => ?_)
  have hP : va_P D vwCl ([(x0, .inr (6, fs)), (x1, .inl (c1, 91, .inr (.inl f1))), (q, .inl (cq, 91, .inl (upd (tbI fmL 71) (71 : Int32).toNatClampNeg (3 : Int32))))]) H := hP
  have hD : va_D A ([(x0, .inr (6, fs)), (x1, .inl (c1, 91, .inr (.inl f1))), (q, .inl (cq, 91, .inl (upd (tbI fmL 71) (71 : Int32).toNatClampNeg (3 : Int32))))]) := hD
  rw [tbI_s (k := 71) rfl rfl] at hP hD
  refine lv_dup hx hb d_D_init_1002 rfl ?_
  refine lv_bipush (v := (72 : Int32)) hx hb d_D_init_1003 (by decide) ?_
  refine lv_iconst (v := (5 : Int32)) hx hb d_D_init_1005 (by decide) ?_
  refine va_iast hx hb hK hP hD hS 2 1 rfl rfl (by unfold vp_in; decide) d_D_init_1006 (fun H locs hP hD hS => ?_)
  have hP : va_P D vwCl ([(x0, .inr (6, fs)), (x1, .inl (c1, 91, .inr (.inl f1))), (q, .inl (cq, 91, .inl (upd (tbI fmL 72) (72 : Int32).toNatClampNeg (5 : Int32))))]) H := hP
  have hD : va_D A ([(x0, .inr (6, fs)), (x1, .inl (c1, 91, .inr (.inl f1))), (q, .inl (cq, 91, .inl (upd (tbI fmL 72) (72 : Int32).toNatClampNeg (5 : Int32))))]) := hD
  rw [tbI_s (k := 72) rfl rfl] at hP hD
  refine lv_dup hx hb d_D_init_1007 rfl ?_
  refine lv_bipush (v := (73 : Int32)) hx hb d_D_init_1008 (by decide) ?_
  refine lv_iconst (v := (3 : Int32)) hx hb d_D_init_1010 (by decide) ?_
  refine va_iast hx hb hK hP hD hS 2 1 rfl rfl (by unfold vp_in; decide) d_D_init_1011 (fun H locs hP hD hS => ?_)
  have hP : va_P D vwCl ([(x0, .inr (6, fs)), (x1, .inl (c1, 91, .inr (.inl f1))), (q, .inl (cq, 91, .inl (upd (tbI fmL 73) (73 : Int32).toNatClampNeg (3 : Int32))))]) H := hP
  have hD : va_D A ([(x0, .inr (6, fs)), (x1, .inl (c1, 91, .inr (.inl f1))), (q, .inl (cq, 91, .inl (upd (tbI fmL 73) (73 : Int32).toNatClampNeg (3 : Int32))))]) := hD
  rw [tbI_s (k := 73) rfl rfl] at hP hD
  refine lv_dup hx hb d_D_init_1012 rfl ?_
  refine lv_bipush (v := (74 : Int32)) hx hb d_D_init_1013 (by decide) ?_
  refine lv_iconst (v := (5 : Int32)) hx hb d_D_init_1015 (by decide) ?_
  refine va_iast hx hb hK hP hD hS 2 1 rfl rfl (by unfold vp_in; decide) d_D_init_1016 (fun H locs hP hD hS => ?_)
  have hP : va_P D vwCl ([(x0, .inr (6, fs)), (x1, .inl (c1, 91, .inr (.inl f1))), (q, .inl (cq, 91, .inl (upd (tbI fmL 74) (74 : Int32).toNatClampNeg (5 : Int32))))]) H := hP
  have hD : va_D A ([(x0, .inr (6, fs)), (x1, .inl (c1, 91, .inr (.inl f1))), (q, .inl (cq, 91, .inl (upd (tbI fmL 74) (74 : Int32).toNatClampNeg (5 : Int32))))]) := hD
  rw [tbI_s (k := 74) rfl rfl] at hP hD
  refine lv_dup hx hb d_D_init_1017 rfl ?_
  refine lv_bipush (v := (75 : Int32)) hx hb d_D_init_1018 (by decide) ?_
  refine lv_iconst (v := (3 : Int32)) hx hb d_D_init_1020 (by decide) ?_
  refine va_iast hx hb hK hP hD hS 2 1 rfl rfl (by unfold vp_in; decide) d_D_init_1021 (fun H locs hP hD hS => ?_)
  have hP : va_P D vwCl ([(x0, .inr (6, fs)), (x1, .inl (c1, 91, .inr (.inl f1))), (q, .inl (cq, 91, .inl (upd (tbI fmL 75) (75 : Int32).toNatClampNeg (3 : Int32))))]) H := hP
  have hD : va_D A ([(x0, .inr (6, fs)), (x1, .inl (c1, 91, .inr (.inl f1))), (q, .inl (cq, 91, .inl (upd (tbI fmL 75) (75 : Int32).toNatClampNeg (3 : Int32))))]) := hD
  rw [tbI_s (k := 75) rfl rfl] at hP hD
  refine lv_dup hx hb d_D_init_1022 rfl ?_
  refine lv_bipush (v := (76 : Int32)) hx hb d_D_init_1023 (by decide) ?_
  refine lv_iconst (v := (5 : Int32)) hx hb d_D_init_1025 (by decide) ?_
  refine va_iast hx hb hK hP hD hS 2 1 rfl rfl (by unfold vp_in; decide) d_D_init_1026 (fun H locs hP hD hS => ?_)
  have hP : va_P D vwCl ([(x0, .inr (6, fs)), (x1, .inl (c1, 91, .inr (.inl f1))), (q, .inl (cq, 91, .inl (upd (tbI fmL 76) (76 : Int32).toNatClampNeg (5 : Int32))))]) H := hP
  have hD : va_D A ([(x0, .inr (6, fs)), (x1, .inl (c1, 91, .inr (.inl f1))), (q, .inl (cq, 91, .inl (upd (tbI fmL 76) (76 : Int32).toNatClampNeg (5 : Int32))))]) := hD
  rw [tbI_s (k := 76) rfl rfl] at hP hD
  refine lv_dup hx hb d_D_init_1027 rfl ?_
  refine lv_bipush (v := (77 : Int32)) hx hb d_D_init_1028 (by decide) ?_
  refine lv_iconst (v := (3 : Int32)) hx hb d_D_init_1030 (by decide) ?_
  refine va_iast hx hb hK hP hD hS 2 1 rfl rfl (by unfold vp_in; decide) d_D_init_1031 (fun H locs hP hD hS => ?_)
  have hP : va_P D vwCl ([(x0, .inr (6, fs)), (x1, .inl (c1, 91, .inr (.inl f1))), (q, .inl (cq, 91, .inl (upd (tbI fmL 77) (77 : Int32).toNatClampNeg (3 : Int32))))]) H := hP
  have hD : va_D A ([(x0, .inr (6, fs)), (x1, .inl (c1, 91, .inr (.inl f1))), (q, .inl (cq, 91, .inl (upd (tbI fmL 77) (77 : Int32).toNatClampNeg (3 : Int32))))]) := hD
  rw [tbI_s (k := 77) rfl rfl] at hP hD
  exact kk H locs hP hD hS
set_option maxHeartbeats 4000000 in
set_option maxRecDepth 100000 in
theorem ch_D_init_1032 {p : Program} {l : Launch} {e : Env} {R : Room} {s : State} {m : MethodId} {args : Array Value} {below : List Frame} {meth : Method} {c : Code} {H : Heap} {locs : List Loc} {cells slots : Nat} {Q : State → Prop} {ls : Array Slot} {D : va_G} {A : Nat → Prop} {fs : List Value} {x0 : Nat} {x1 : Nat} {c1 : ClassId} {f1 : Nat → Int64} {q : Nat} {cq : ClassId} {rest : List Value} (hx : p.tables.exec = Jvm.exec) (hb : c.code = c_D_init) (hown : s.vm.findClass "WindowMachineModel" = some m.cls) (ht : ∀ w9 ∈ zT, w9.before args s = true) (hK : va_K D vwCl [(c1, .long), (cq, .int)] s) (hP : va_P D vwCl [(x0, .inr (6, fs)), (x1, .inl (c1, 91, .inr (.inl f1))), (q, .inl (cq, 91, .inl (tbI fmL 78)))] H) (hD : va_D A [(x0, .inr (6, fs)), (x1, .inl (c1, 91, .inr (.inl f1))), (q, .inl (cq, 91, .inl (tbI fmL 78)))]) (hS : va_S A s.heap H locs)
    (kk : ∀ (H : Heap) (locs : List Loc), va_P D vwCl [(x0, .inr (6, fs)), (x1, .inl (c1, 91, .inr (.inl f1))), (q, .inl (cq, 91, .inl (tbI fmL 91)))] H → va_D A [(x0, .inr (6, fs)), (x1, .inl (c1, 91, .inr (.inl f1))), (q, .inl (cq, 91, .inl (tbI fmL 91)))] → va_S A s.heap H locs → W p l e R s m args below meth c H locs cells slots Q (F0 m 1102 ls (.ref q :: rest))) : W p l e R s m args below meth c H locs cells slots Q (F0 m 1032 ls (.ref q :: rest)) := by
  refine lv_dup hx hb d_D_init_1032 rfl ?_
  refine lv_bipush (v := (78 : Int32)) hx hb d_D_init_1033 (by decide) ?_
  refine lv_iconst (v := (0 : Int32)) hx hb d_D_init_1035 (by decide) ?_
  refine va_iast hx hb hK hP hD hS 2 1 rfl rfl (by unfold vp_in; decide) d_D_init_1036 (fun H locs hP hD hS => ?_)
  have hP : va_P D vwCl ([(x0, .inr (6, fs)), (x1, .inl (c1, 91, .inr (.inl f1))), (q, .inl (cq, 91, .inl (upd (tbI fmL 78) (78 : Int32).toNatClampNeg (0 : Int32))))]) H := hP
  have hD : va_D A ([(x0, .inr (6, fs)), (x1, .inl (c1, 91, .inr (.inl f1))), (q, .inl (cq, 91, .inl (upd (tbI fmL 78) (78 : Int32).toNatClampNeg (0 : Int32))))]) := hD
  rw [tbI_s (k := 78) rfl rfl] at hP hD
  refine lv_dup hx hb d_D_init_1037 rfl ?_
  refine lv_bipush (v := (79 : Int32)) hx hb d_D_init_1038 (by decide) ?_
  refine lv_iconst (v := (0 : Int32)) hx hb d_D_init_1040 (by decide) ?_
  refine va_iast hx hb hK hP hD hS 2 1 rfl rfl (by unfold vp_in; decide) d_D_init_1041 (fun H locs hP hD hS => ?_)
  have hP : va_P D vwCl ([(x0, .inr (6, fs)), (x1, .inl (c1, 91, .inr (.inl f1))), (q, .inl (cq, 91, .inl (upd (tbI fmL 79) (79 : Int32).toNatClampNeg (0 : Int32))))]) H := hP
  have hD : va_D A ([(x0, .inr (6, fs)), (x1, .inl (c1, 91, .inr (.inl f1))), (q, .inl (cq, 91, .inl (upd (tbI fmL 79) (79 : Int32).toNatClampNeg (0 : Int32))))]) := hD
  rw [tbI_s (k := 79) rfl rfl] at hP hD
  refine lv_dup hx hb d_D_init_1042 rfl ?_
  refine lv_bipush (v := (80 : Int32)) hx hb d_D_init_1043 (by decide) ?_
  refine lv_iconst (v := (0 : Int32)) hx hb d_D_init_1045 (by decide) ?_
  refine va_iast hx hb hK hP hD hS 2 1 rfl rfl (by unfold vp_in; decide) d_D_init_1046 (fun H locs hP hD hS => ?_)
  have hP : va_P D vwCl ([(x0, .inr (6, fs)), (x1, .inl (c1, 91, .inr (.inl f1))), (q, .inl (cq, 91, .inl (upd (tbI fmL 80) (80 : Int32).toNatClampNeg (0 : Int32))))]) H := hP
  have hD : va_D A ([(x0, .inr (6, fs)), (x1, .inl (c1, 91, .inr (.inl f1))), (q, .inl (cq, 91, .inl (upd (tbI fmL 80) (80 : Int32).toNatClampNeg (0 : Int32))))]) := hD
  rw [tbI_s (k := 80) rfl rfl] at hP hD
  refine lv_dup hx hb d_D_init_1047 rfl ?_
  refine lv_bipush (v := (81 : Int32)) hx hb d_D_init_1048 (by decide) ?_
  refine lv_iconst (v := (0 : Int32)) hx hb d_D_init_1050 (by decide) ?_
  refine va_iast hx hb hK hP hD hS 2 1 rfl rfl (by unfold vp_in; decide) d_D_init_1051 (fun H locs hP hD hS => ?_)
  have hP : va_P D vwCl ([(x0, .inr (6, fs)), (x1, .inl (c1, 91, .inr (.inl f1))), (q, .inl (cq, 91, .inl (upd (tbI fmL 81) (81 : Int32).toNatClampNeg (0 : Int32))))]) H := hP
  have hD : va_D A ([(x0, .inr (6, fs)), (x1, .inl (c1, 91, .inr (.inl f1))), (q, .inl (cq, 91, .inl (upd (tbI fmL 81) (81 : Int32).toNatClampNeg (0 : Int32))))]) := hD
  rw [tbI_s (k := 81) rfl rfl] at hP hD
  refine lv_dup hx hb d_D_init_1052 rfl ?_
  refine lv_bipush (v := (82 : Int32)) hx hb d_D_init_1053 (by decide) ?_
  refine lv_iconst (v := (0 : Int32)) hx hb d_D_init_1055 (by decide) ?_
  refine va_iast hx hb hK hP hD hS 2 1 rfl rfl (by unfold vp_in; decide) d_D_init_1056 (fun H locs hP hD hS => ?_)
  have hP : va_P D vwCl ([(x0, .inr (6, fs)), (x1, .inl (c1, 91, .inr (.inl f1))), (q, .inl (cq, 91, .inl (upd (tbI fmL 82) (82 : Int32).toNatClampNeg (0 : Int32))))]) H := hP
  have hD : va_D A ([(x0, .inr (6, fs)), (x1, .inl (c1, 91, .inr (.inl f1))), (q, .inl (cq, 91, .inl (upd (tbI fmL 82) (82 : Int32).toNatClampNeg (0 : Int32))))]) := hD
  rw [tbI_s (k := 82) rfl rfl] at hP hD
  refine lv_dup hx hb d_D_init_1057 rfl ?_
  refine lv_bipush (v := (83 : Int32)) hx hb d_D_init_1058 (by decide) ?_
  refine lv_iconst (v := (0 : Int32)) hx hb d_D_init_1060 (by decide) ?_
  refine va_iast hx hb hK hP hD hS 2 1 rfl rfl (by unfold vp_in; decide) d_D_init_1061 (fun H locs hP hD hS => ?_)
  have hP : va_P D vwCl ([(x0, .inr (6, fs)), (x1, .inl (c1, 91, .inr (.inl f1))), (q, .inl (cq, 91, .inl (upd (tbI fmL 83) (83 : Int32).toNatClampNeg (0 : Int32))))]) H := hP
  have hD : va_D A ([(x0, .inr (6, fs)), (x1, .inl (c1, 91, .inr (.inl f1))), (q, .inl (cq, 91, .inl (upd (tbI fmL 83) (83 : Int32).toNatClampNeg (0 : Int32))))]) := hD
  rw [tbI_s (k := 83) rfl rfl] at hP hD
  refine lv_dup hx hb d_D_init_1062 rfl ?_
  refine lv_bipush (v := (84 : Int32)) hx hb d_D_init_1063 (by decide) ?_
  refine lv_iconst (v := (0 : Int32)) hx hb d_D_init_1065 (by decide) ?_
  refine va_iast hx hb hK hP hD hS 2 1 rfl rfl (by unfold vp_in; decide) d_D_init_1066 (fun H locs hP hD hS => ?_)
  have hP : va_P D vwCl ([(x0, .inr (6, fs)), (x1, .inl (c1, 91, .inr (.inl f1))), (q, .inl (cq, 91, .inl (upd (tbI fmL 84) (84 : Int32).toNatClampNeg (0 : Int32))))]) H := hP
  have hD : va_D A ([(x0, .inr (6, fs)), (x1, .inl (c1, 91, .inr (.inl f1))), (q, .inl (cq, 91, .inl (upd (tbI fmL 84) (84 : Int32).toNatClampNeg (0 : Int32))))]) := hD
  rw [tbI_s (k := 84) rfl rfl] at hP hD
  refine lv_dup hx hb d_D_init_1067 rfl ?_
  refine lv_bipush (v := (85 : Int32)) hx hb d_D_init_1068 (by decide) ?_
  refine lv_iconst (v := (0 : Int32)) hx hb d_D_init_1070 (by decide) ?_
  refine va_iast hx hb hK hP hD hS 2 1 rfl rfl (by unfold vp_in; decide) d_D_init_1071 (fun H locs hP hD hS => ?_)
  have hP : va_P D vwCl ([(x0, .inr (6, fs)), (x1, .inl (c1, 91, .inr (.inl f1))), (q, .inl (cq, 91, .inl (upd (tbI fmL 85) (85 : Int32).toNatClampNeg (0 : Int32))))]) H := hP
  have hD : va_D A ([(x0, .inr (6, fs)), (x1, .inl (c1, 91, .inr (.inl f1))), (q, .inl (cq, 91, .inl (upd (tbI fmL 85) (85 : Int32).toNatClampNeg (0 : Int32))))]) := hD
  rw [tbI_s (k := 85) rfl rfl] at hP hD
  refine lv_dup hx hb d_D_init_1072 rfl ?_
  refine lv_bipush (v := (86 : Int32)) hx hb d_D_init_1073 (by decide) ?_
  refine lv_bipush (v := (6 : Int32)) hx hb d_D_init_1075 (by decide) ?_
  refine va_iast hx hb hK hP hD hS 2 1 rfl rfl (by unfold vp_in; decide) d_D_init_1077 (fun H locs hP hD hS => ?_)
  have hP : va_P D vwCl ([(x0, .inr (6, fs)), (x1, .inl (c1, 91, .inr (.inl f1))), (q, .inl (cq, 91, .inl (upd (tbI fmL 86) (86 : Int32).toNatClampNeg (6 : Int32))))]) H := hP
  have hD : va_D A ([(x0, .inr (6, fs)), (x1, .inl (c1, 91, .inr (.inl f1))), (q, .inl (cq, 91, .inl (upd (tbI fmL 86) (86 : Int32).toNatClampNeg (6 : Int32))))]) := hD
  rw [tbI_s (k := 86) rfl rfl] at hP hD
  refine lv_dup hx hb d_D_init_1078 rfl ?_
  refine lv_bipush (v := (87 : Int32)) hx hb d_D_init_1079 (by decide) ?_
  refine lv_bipush (v := (6 : Int32)) hx hb d_D_init_1081 (by decide) ?_
  refine va_iast hx hb hK hP hD hS 2 1 rfl rfl (by unfold vp_in; decide) d_D_init_1083 (fun H locs hP hD hS => ?_)
  have hP : va_P D vwCl ([(x0, .inr (6, fs)), (x1, .inl (c1, 91, .inr (.inl f1))), (q, .inl (cq, 91, .inl (upd (tbI fmL 87) (87 : Int32).toNatClampNeg (6 : Int32))))]) H := hP
  have hD : va_D A ([(x0, .inr (6, fs)), (x1, .inl (c1, 91, .inr (.inl f1))), (q, .inl (cq, 91, .inl (upd (tbI fmL 87) (87 : Int32).toNatClampNeg (6 : Int32))))]) := hD
  rw [tbI_s (k := 87) rfl rfl] at hP hD
  refine lv_dup hx hb d_D_init_1084 rfl ?_
  refine lv_bipush (v := (88 : Int32)) hx hb d_D_init_1085 (by decide) ?_
  refine lv_bipush (v := (6 : Int32)) hx hb d_D_init_1087 (by decide) ?_
  refine va_iast hx hb hK hP hD hS 2 1 rfl rfl (by unfold vp_in; decide) d_D_init_1089 (fun H locs hP hD hS => ?_)
  have hP : va_P D vwCl ([(x0, .inr (6, fs)), (x1, .inl (c1, 91, .inr (.inl f1))), (q, .inl (cq, 91, .inl (upd (tbI fmL 88) (88 : Int32).toNatClampNeg (6 : Int32))))]) H := hP
  have hD : va_D A ([(x0, .inr (6, fs)), (x1, .inl (c1, 91, .inr (.inl f1))), (q, .inl (cq, 91, .inl (upd (tbI fmL 88) (88 : Int32).toNatClampNeg (6 : Int32))))]) := hD
  rw [tbI_s (k := 88) rfl rfl] at hP hD
  refine lv_dup hx hb d_D_init_1090 rfl ?_
  refine lv_bipush (v := (89 : Int32)) hx hb d_D_init_1091 (by decide) ?_
  refine lv_bipush (v := (6 : Int32)) hx hb d_D_init_1093 (by decide) ?_
  refine va_iast hx hb hK hP hD hS 2 1 rfl rfl (by unfold vp_in; decide) d_D_init_1095 (fun H locs hP hD hS => ?_)
  have hP : va_P D vwCl ([(x0, .inr (6, fs)), (x1, .inl (c1, 91, .inr (.inl f1))), (q, .inl (cq, 91, .inl (upd (tbI fmL 89) (89 : Int32).toNatClampNeg (6 : Int32))))]) H := hP
  have hD : va_D A ([(x0, .inr (6, fs)), (x1, .inl (c1, 91, .inr (.inl f1))), (q, .inl (cq, 91, .inl (upd (tbI fmL 89) (89 : Int32).toNatClampNeg (6 : Int32))))]) := hD
  rw [tbI_s (k := 89) rfl rfl] at hP hD
  refine lv_dup hx hb d_D_init_1096 rfl ?_
  refine lv_bipush (v := (90 : Int32)) hx hb d_D_init_1097 (by decide) ?_
  refine lv_bipush (v := (7 : Int32)) hx hb d_D_init_1099 (by decide) ?_
  refine va_iast hx hb hK hP hD hS 2 1 rfl rfl (by unfold vp_in; decide) d_D_init_1101 (fun H locs hP hD hS => ?_)
  have hP : va_P D vwCl ([(x0, .inr (6, fs)), (x1, .inl (c1, 91, .inr (.inl f1))), (q, .inl (cq, 91, .inl (upd (tbI fmL 90) (90 : Int32).toNatClampNeg (7 : Int32))))]) H := hP
  have hD : va_D A ([(x0, .inr (6, fs)), (x1, .inl (c1, 91, .inr (.inl f1))), (q, .inl (cq, 91, .inl (upd (tbI fmL 90) (90 : Int32).toNatClampNeg (7 : Int32))))]) := hD
  rw [tbI_s (k := 90) rfl rfl] at hP hD
  exact kk H locs hP hD hS
set_option maxHeartbeats 4000000 in
set_option maxRecDepth 100000 in
theorem ch_D_init_1110 {p : Program} {l : Launch} {e : Env} {R : Room} {s : State} {m : MethodId} {args : Array Value} {below : List Frame} {meth : Method} {c : Code} {H : Heap} {locs : List Loc} {cells slots : Nat} {Q : State → Prop} {ls : Array Slot} {D : va_G} {A : Nat → Prop} {fs : List Value} {x0 : Nat} {x1 : Nat} {c1 : ClassId} {f1 : Nat → Int64} {x2 : Nat} {c2 : ClassId} {f2 : Nat → Int32} {q : Nat} {cq : ClassId} {rest : List Value} (hx : p.tables.exec = Jvm.exec) (hb : c.code = c_D_init) (hown : s.vm.findClass "WindowMachineModel" = some m.cls) (ht : ∀ w9 ∈ zT, w9.before args s = true) (hK : va_K D vwCl [(c1, .long), (c2, .int), (cq, .int)] s) (hP : va_P D vwCl [(x0, .inr (6, fs)), (x1, .inl (c1, 91, .inr (.inl f1))), (x2, .inl (c2, 91, .inl f2)), (q, .inl (cq, 91, .inl (tbI cdL 0)))] H) (hD : va_D A [(x0, .inr (6, fs)), (x1, .inl (c1, 91, .inr (.inl f1))), (x2, .inl (c2, 91, .inl f2)), (q, .inl (cq, 91, .inl (tbI cdL 0)))]) (hS : va_S A s.heap H locs)
    (kk : ∀ (H : Heap) (locs : List Loc), va_P D vwCl [(x0, .inr (6, fs)), (x1, .inl (c1, 91, .inr (.inl f1))), (x2, .inl (c2, 91, .inl f2)), (q, .inl (cq, 91, .inl (tbI cdL 13)))] H → va_D A [(x0, .inr (6, fs)), (x1, .inl (c1, 91, .inr (.inl f1))), (x2, .inl (c2, 91, .inl f2)), (q, .inl (cq, 91, .inl (tbI cdL 13)))] → va_S A s.heap H locs → W p l e R s m args below meth c H locs cells slots Q (F0 m 1195 ls (.ref q :: rest))) : W p l e R s m args below meth c H locs cells slots Q (F0 m 1110 ls (.ref q :: rest)) := by
  refine lv_dup hx hb d_D_init_1110 rfl ?_
  refine lv_iconst (v := (0 : Int32)) hx hb d_D_init_1111 (by decide) ?_
  refine lv_sipush (v := (128 : Int32)) hx hb d_D_init_1112 (by decide) ?_
  refine va_iast hx hb hK hP hD hS 3 2 rfl rfl (by unfold vp_in; decide) d_D_init_1115 (fun H locs hP hD hS => ?_)
  have hP : va_P D vwCl ([(x0, .inr (6, fs)), (x1, .inl (c1, 91, .inr (.inl f1))), (x2, .inl (c2, 91, .inl f2)), (q, .inl (cq, 91, .inl (upd (tbI cdL 0) (0 : Int32).toNatClampNeg (128 : Int32))))]) H := hP
  have hD : va_D A ([(x0, .inr (6, fs)), (x1, .inl (c1, 91, .inr (.inl f1))), (x2, .inl (c2, 91, .inl f2)), (q, .inl (cq, 91, .inl (upd (tbI cdL 0) (0 : Int32).toNatClampNeg (128 : Int32))))]) := hD
  rw [tbI_s (k := 0) rfl rfl] at hP hD
  refine lv_dup hx hb d_D_init_1116 rfl ?_
  refine lv_iconst (v := (1 : Int32)) hx hb d_D_init_1117 (by decide) ?_
  refine lv_sipush (v := (144 : Int32)) hx hb d_D_init_1118 (by decide) ?_
  refine va_iast hx hb hK hP hD hS 3 2 rfl rfl (by unfold vp_in; decide) d_D_init_1121 (fun H locs hP hD hS => ?_)
  have hP : va_P D vwCl ([(x0, .inr (6, fs)), (x1, .inl (c1, 91, .inr (.inl f1))), (x2, .inl (c2, 91, .inl f2)), (q, .inl (cq, 91, .inl (upd (tbI cdL 1) (1 : Int32).toNatClampNeg (144 : Int32))))]) H := hP
  have hD : va_D A ([(x0, .inr (6, fs)), (x1, .inl (c1, 91, .inr (.inl f1))), (x2, .inl (c2, 91, .inl f2)), (q, .inl (cq, 91, .inl (upd (tbI cdL 1) (1 : Int32).toNatClampNeg (144 : Int32))))]) := hD
  rw [tbI_s (k := 1) rfl rfl] at hP hD
  refine lv_dup hx hb d_D_init_1122 rfl ?_
  refine lv_iconst (v := (2 : Int32)) hx hb d_D_init_1123 (by decide) ?_
  refine lv_sipush (v := (129 : Int32)) hx hb d_D_init_1124 (by decide) ?_
  refine va_iast hx hb hK hP hD hS 3 2 rfl rfl (by unfold vp_in; decide) d_D_init_1127 (fun H locs hP hD hS => ?_)
  have hP : va_P D vwCl ([(x0, .inr (6, fs)), (x1, .inl (c1, 91, .inr (.inl f1))), (x2, .inl (c2, 91, .inl f2)), (q, .inl (cq, 91, .inl (upd (tbI cdL 2) (2 : Int32).toNatClampNeg (129 : Int32))))]) H := hP
  have hD : va_D A ([(x0, .inr (6, fs)), (x1, .inl (c1, 91, .inr (.inl f1))), (x2, .inl (c2, 91, .inl f2)), (q, .inl (cq, 91, .inl (upd (tbI cdL 2) (2 : Int32).toNatClampNeg (129 : Int32))))]) := hD
  rw [tbI_s (k := 2) rfl rfl] at hP hD
  refine lv_dup hx hb d_D_init_1128 rfl ?_
  refine lv_iconst (v := (3 : Int32)) hx hb d_D_init_1129 (by decide) ?_
  refine lv_sipush (v := (145 : Int32)) hx hb d_D_init_1130 (by decide) ?_
  refine va_iast hx hb hK hP hD hS 3 2 rfl rfl (by unfold vp_in; decide) d_D_init_1133 (fun H locs hP hD hS => ?_)
  have hP : va_P D vwCl ([(x0, .inr (6, fs)), (x1, .inl (c1, 91, .inr (.inl f1))), (x2, .inl (c2, 91, .inl f2)), (q, .inl (cq, 91, .inl (upd (tbI cdL 3) (3 : Int32).toNatClampNeg (145 : Int32))))]) H := hP
  have hD : va_D A ([(x0, .inr (6, fs)), (x1, .inl (c1, 91, .inr (.inl f1))), (x2, .inl (c2, 91, .inl f2)), (q, .inl (cq, 91, .inl (upd (tbI cdL 3) (3 : Int32).toNatClampNeg (145 : Int32))))]) := hD
  rw [tbI_s (k := 3) rfl rfl] at hP hD
  refine lv_dup hx hb d_D_init_1134 rfl ?_
  refine lv_iconst (v := (4 : Int32)) hx hb d_D_init_1135 (by decide) ?_
  refine lv_sipush (v := (130 : Int32)) hx hb d_D_init_1136 (by decide) ?_
  refine va_iast hx hb hK hP hD hS 3 2 rfl rfl (by unfold vp_in; decide) d_D_init_1139 (fun H locs hP hD hS => ?_)
  have hP : va_P D vwCl ([(x0, .inr (6, fs)), (x1, .inl (c1, 91, .inr (.inl f1))), (x2, .inl (c2, 91, .inl f2)), (q, .inl (cq, 91, .inl (upd (tbI cdL 4) (4 : Int32).toNatClampNeg (130 : Int32))))]) H := hP
  have hD : va_D A ([(x0, .inr (6, fs)), (x1, .inl (c1, 91, .inr (.inl f1))), (x2, .inl (c2, 91, .inl f2)), (q, .inl (cq, 91, .inl (upd (tbI cdL 4) (4 : Int32).toNatClampNeg (130 : Int32))))]) := hD
  rw [tbI_s (k := 4) rfl rfl] at hP hD
  refine lv_dup hx hb d_D_init_1140 rfl ?_
  refine lv_iconst (v := (5 : Int32)) hx hb d_D_init_1141 (by decide) ?_
  refine lv_sipush (v := (146 : Int32)) hx hb d_D_init_1142 (by decide) ?_
  refine va_iast hx hb hK hP hD hS 3 2 rfl rfl (by unfold vp_in; decide) d_D_init_1145 (fun H locs hP hD hS => ?_)
  have hP : va_P D vwCl ([(x0, .inr (6, fs)), (x1, .inl (c1, 91, .inr (.inl f1))), (x2, .inl (c2, 91, .inl f2)), (q, .inl (cq, 91, .inl (upd (tbI cdL 5) (5 : Int32).toNatClampNeg (146 : Int32))))]) H := hP
  have hD : va_D A ([(x0, .inr (6, fs)), (x1, .inl (c1, 91, .inr (.inl f1))), (x2, .inl (c2, 91, .inl f2)), (q, .inl (cq, 91, .inl (upd (tbI cdL 5) (5 : Int32).toNatClampNeg (146 : Int32))))]) := hD
  rw [tbI_s (k := 5) rfl rfl] at hP hD
  refine lv_dup hx hb d_D_init_1146 rfl ?_
  refine lv_bipush (v := (6 : Int32)) hx hb d_D_init_1147 (by decide) ?_
  refine lv_sipush (v := (131 : Int32)) hx hb d_D_init_1149 (by decide) ?_
  refine va_iast hx hb hK hP hD hS 3 2 rfl rfl (by unfold vp_in; decide) d_D_init_1152 (fun H locs hP hD hS => ?_)
  have hP : va_P D vwCl ([(x0, .inr (6, fs)), (x1, .inl (c1, 91, .inr (.inl f1))), (x2, .inl (c2, 91, .inl f2)), (q, .inl (cq, 91, .inl (upd (tbI cdL 6) (6 : Int32).toNatClampNeg (131 : Int32))))]) H := hP
  have hD : va_D A ([(x0, .inr (6, fs)), (x1, .inl (c1, 91, .inr (.inl f1))), (x2, .inl (c2, 91, .inl f2)), (q, .inl (cq, 91, .inl (upd (tbI cdL 6) (6 : Int32).toNatClampNeg (131 : Int32))))]) := hD
  rw [tbI_s (k := 6) rfl rfl] at hP hD
  refine lv_dup hx hb d_D_init_1153 rfl ?_
  refine lv_bipush (v := (7 : Int32)) hx hb d_D_init_1154 (by decide) ?_
  refine lv_sipush (v := (147 : Int32)) hx hb d_D_init_1156 (by decide) ?_
  refine va_iast hx hb hK hP hD hS 3 2 rfl rfl (by unfold vp_in; decide) d_D_init_1159 (fun H locs hP hD hS => ?_)
  have hP : va_P D vwCl ([(x0, .inr (6, fs)), (x1, .inl (c1, 91, .inr (.inl f1))), (x2, .inl (c2, 91, .inl f2)), (q, .inl (cq, 91, .inl (upd (tbI cdL 7) (7 : Int32).toNatClampNeg (147 : Int32))))]) H := hP
  have hD : va_D A ([(x0, .inr (6, fs)), (x1, .inl (c1, 91, .inr (.inl f1))), (x2, .inl (c2, 91, .inl f2)), (q, .inl (cq, 91, .inl (upd (tbI cdL 7) (7 : Int32).toNatClampNeg (147 : Int32))))]) := hD
  rw [tbI_s (k := 7) rfl rfl] at hP hD
  refine lv_dup hx hb d_D_init_1160 rfl ?_
  refine lv_bipush (v := (8 : Int32)) hx hb d_D_init_1161 (by decide) ?_
  refine lv_sipush (v := (132 : Int32)) hx hb d_D_init_1163 (by decide) ?_
  refine va_iast hx hb hK hP hD hS 3 2 rfl rfl (by unfold vp_in; decide) d_D_init_1166 (fun H locs hP hD hS => ?_)
  have hP : va_P D vwCl ([(x0, .inr (6, fs)), (x1, .inl (c1, 91, .inr (.inl f1))), (x2, .inl (c2, 91, .inl f2)), (q, .inl (cq, 91, .inl (upd (tbI cdL 8) (8 : Int32).toNatClampNeg (132 : Int32))))]) H := hP
  have hD : va_D A ([(x0, .inr (6, fs)), (x1, .inl (c1, 91, .inr (.inl f1))), (x2, .inl (c2, 91, .inl f2)), (q, .inl (cq, 91, .inl (upd (tbI cdL 8) (8 : Int32).toNatClampNeg (132 : Int32))))]) := hD
  rw [tbI_s (k := 8) rfl rfl] at hP hD
  refine lv_dup hx hb d_D_init_1167 rfl ?_
  refine lv_bipush (v := (9 : Int32)) hx hb d_D_init_1168 (by decide) ?_
  refine lv_sipush (v := (148 : Int32)) hx hb d_D_init_1170 (by decide) ?_
  refine va_iast hx hb hK hP hD hS 3 2 rfl rfl (by unfold vp_in; decide) d_D_init_1173 (fun H locs hP hD hS => ?_)
  have hP : va_P D vwCl ([(x0, .inr (6, fs)), (x1, .inl (c1, 91, .inr (.inl f1))), (x2, .inl (c2, 91, .inl f2)), (q, .inl (cq, 91, .inl (upd (tbI cdL 9) (9 : Int32).toNatClampNeg (148 : Int32))))]) H := hP
  have hD : va_D A ([(x0, .inr (6, fs)), (x1, .inl (c1, 91, .inr (.inl f1))), (x2, .inl (c2, 91, .inl f2)), (q, .inl (cq, 91, .inl (upd (tbI cdL 9) (9 : Int32).toNatClampNeg (148 : Int32))))]) := hD
  rw [tbI_s (k := 9) rfl rfl] at hP hD
  refine lv_dup hx hb d_D_init_1174 rfl ?_
  refine lv_bipush (v := (10 : Int32)) hx hb d_D_init_1175 (by decide) ?_
  refine lv_sipush (v := (133 : Int32)) hx hb d_D_init_1177 (by decide) ?_
  refine va_iast hx hb hK hP hD hS 3 2 rfl rfl (by unfold vp_in; decide) d_D_init_1180 (fun H locs hP hD hS => ?_)
  have hP : va_P D vwCl ([(x0, .inr (6, fs)), (x1, .inl (c1, 91, .inr (.inl f1))), (x2, .inl (c2, 91, .inl f2)), (q, .inl (cq, 91, .inl (upd (tbI cdL 10) (10 : Int32).toNatClampNeg (133 : Int32))))]) H := hP
  have hD : va_D A ([(x0, .inr (6, fs)), (x1, .inl (c1, 91, .inr (.inl f1))), (x2, .inl (c2, 91, .inl f2)), (q, .inl (cq, 91, .inl (upd (tbI cdL 10) (10 : Int32).toNatClampNeg (133 : Int32))))]) := hD
  rw [tbI_s (k := 10) rfl rfl] at hP hD
  refine lv_dup hx hb d_D_init_1181 rfl ?_
  refine lv_bipush (v := (11 : Int32)) hx hb d_D_init_1182 (by decide) ?_
  refine lv_sipush (v := (149 : Int32)) hx hb d_D_init_1184 (by decide) ?_
  refine va_iast hx hb hK hP hD hS 3 2 rfl rfl (by unfold vp_in; decide) d_D_init_1187 (fun H locs hP hD hS => ?_)
  have hP : va_P D vwCl ([(x0, .inr (6, fs)), (x1, .inl (c1, 91, .inr (.inl f1))), (x2, .inl (c2, 91, .inl f2)), (q, .inl (cq, 91, .inl (upd (tbI cdL 11) (11 : Int32).toNatClampNeg (149 : Int32))))]) H := hP
  have hD : va_D A ([(x0, .inr (6, fs)), (x1, .inl (c1, 91, .inr (.inl f1))), (x2, .inl (c2, 91, .inl f2)), (q, .inl (cq, 91, .inl (upd (tbI cdL 11) (11 : Int32).toNatClampNeg (149 : Int32))))]) := hD
  rw [tbI_s (k := 11) rfl rfl] at hP hD
  refine lv_dup hx hb d_D_init_1188 rfl ?_
  refine lv_bipush (v := (12 : Int32)) hx hb d_D_init_1189 (by decide) ?_
  refine lv_sipush (v := (134 : Int32)) hx hb d_D_init_1191 (by decide) ?_
  refine va_iast hx hb hK hP hD hS 3 2 rfl rfl (by unfold vp_in; decide) d_D_init_1194 (fun H locs hP hD hS => ?_)
  have hP : va_P D vwCl ([(x0, .inr (6, fs)), (x1, .inl (c1, 91, .inr (.inl f1))), (x2, .inl (c2, 91, .inl f2)), (q, .inl (cq, 91, .inl (upd (tbI cdL 12) (12 : Int32).toNatClampNeg (134 : Int32))))]) H := hP
  have hD : va_D A ([(x0, .inr (6, fs)), (x1, .inl (c1, 91, .inr (.inl f1))), (x2, .inl (c2, 91, .inl f2)), (q, .inl (cq, 91, .inl (upd (tbI cdL 12) (12 : Int32).toNatClampNeg (134 : Int32))))]) := hD
  rw [tbI_s (k := 12) rfl rfl] at hP hD
  exact kk H locs hP hD hS
set_option maxHeartbeats 4000000 in
set_option maxRecDepth 100000 in
theorem ch_D_init_1195 {p : Program} {l : Launch} {e : Env} {R : Room} {s : State} {m : MethodId} {args : Array Value} {below : List Frame} {meth : Method} {c : Code} {H : Heap} {locs : List Loc} {cells slots : Nat} {Q : State → Prop} {ls : Array Slot} {D : va_G} {A : Nat → Prop} {fs : List Value} {x0 : Nat} {x1 : Nat} {c1 : ClassId} {f1 : Nat → Int64} {x2 : Nat} {c2 : ClassId} {f2 : Nat → Int32} {q : Nat} {cq : ClassId} {rest : List Value} (hx : p.tables.exec = Jvm.exec) (hb : c.code = c_D_init) (hown : s.vm.findClass "WindowMachineModel" = some m.cls) (ht : ∀ w9 ∈ zT, w9.before args s = true) (hK : va_K D vwCl [(c1, .long), (c2, .int), (cq, .int)] s) (hP : va_P D vwCl [(x0, .inr (6, fs)), (x1, .inl (c1, 91, .inr (.inl f1))), (x2, .inl (c2, 91, .inl f2)), (q, .inl (cq, 91, .inl (tbI cdL 13)))] H) (hD : va_D A [(x0, .inr (6, fs)), (x1, .inl (c1, 91, .inr (.inl f1))), (x2, .inl (c2, 91, .inl f2)), (q, .inl (cq, 91, .inl (tbI cdL 13)))]) (hS : va_S A s.heap H locs)
    (kk : ∀ (H : Heap) (locs : List Loc), va_P D vwCl [(x0, .inr (6, fs)), (x1, .inl (c1, 91, .inr (.inl f1))), (x2, .inl (c2, 91, .inl f2)), (q, .inl (cq, 91, .inl (tbI cdL 26)))] H → va_D A [(x0, .inr (6, fs)), (x1, .inl (c1, 91, .inr (.inl f1))), (x2, .inl (c2, 91, .inl f2)), (q, .inl (cq, 91, .inl (tbI cdL 26)))] → va_S A s.heap H locs → W p l e R s m args below meth c H locs cells slots Q (F0 m 1286 ls (.ref q :: rest))) : W p l e R s m args below meth c H locs cells slots Q (F0 m 1195 ls (.ref q :: rest)) := by
  refine lv_dup hx hb d_D_init_1195 rfl ?_
  refine lv_bipush (v := (13 : Int32)) hx hb d_D_init_1196 (by decide) ?_
  refine lv_sipush (v := (150 : Int32)) hx hb d_D_init_1198 (by decide) ?_
  refine va_iast hx hb hK hP hD hS 3 2 rfl rfl (by unfold vp_in; decide) d_D_init_1201 (fun H locs hP hD hS => ?_)
  have hP : va_P D vwCl ([(x0, .inr (6, fs)), (x1, .inl (c1, 91, .inr (.inl f1))), (x2, .inl (c2, 91, .inl f2)), (q, .inl (cq, 91, .inl (upd (tbI cdL 13) (13 : Int32).toNatClampNeg (150 : Int32))))]) H := hP
  have hD : va_D A ([(x0, .inr (6, fs)), (x1, .inl (c1, 91, .inr (.inl f1))), (x2, .inl (c2, 91, .inl f2)), (q, .inl (cq, 91, .inl (upd (tbI cdL 13) (13 : Int32).toNatClampNeg (150 : Int32))))]) := hD
  rw [tbI_s (k := 13) rfl rfl] at hP hD
  refine lv_dup hx hb d_D_init_1202 rfl ?_
  refine lv_bipush (v := (14 : Int32)) hx hb d_D_init_1203 (by decide) ?_
  refine lv_sipush (v := (135 : Int32)) hx hb d_D_init_1205 (by decide) ?_
  refine va_iast hx hb hK hP hD hS 3 2 rfl rfl (by unfold vp_in; decide) d_D_init_1208 (fun H locs hP hD hS => ?_)
  have hP : va_P D vwCl ([(x0, .inr (6, fs)), (x1, .inl (c1, 91, .inr (.inl f1))), (x2, .inl (c2, 91, .inl f2)), (q, .inl (cq, 91, .inl (upd (tbI cdL 14) (14 : Int32).toNatClampNeg (135 : Int32))))]) H := hP
  have hD : va_D A ([(x0, .inr (6, fs)), (x1, .inl (c1, 91, .inr (.inl f1))), (x2, .inl (c2, 91, .inl f2)), (q, .inl (cq, 91, .inl (upd (tbI cdL 14) (14 : Int32).toNatClampNeg (135 : Int32))))]) := hD
  rw [tbI_s (k := 14) rfl rfl] at hP hD
  refine lv_dup hx hb d_D_init_1209 rfl ?_
  refine lv_bipush (v := (15 : Int32)) hx hb d_D_init_1210 (by decide) ?_
  refine lv_sipush (v := (151 : Int32)) hx hb d_D_init_1212 (by decide) ?_
  refine va_iast hx hb hK hP hD hS 3 2 rfl rfl (by unfold vp_in; decide) d_D_init_1215 (fun H locs hP hD hS => ?_)
  have hP : va_P D vwCl ([(x0, .inr (6, fs)), (x1, .inl (c1, 91, .inr (.inl f1))), (x2, .inl (c2, 91, .inl f2)), (q, .inl (cq, 91, .inl (upd (tbI cdL 15) (15 : Int32).toNatClampNeg (151 : Int32))))]) H := hP
  have hD : va_D A ([(x0, .inr (6, fs)), (x1, .inl (c1, 91, .inr (.inl f1))), (x2, .inl (c2, 91, .inl f2)), (q, .inl (cq, 91, .inl (upd (tbI cdL 15) (15 : Int32).toNatClampNeg (151 : Int32))))]) := hD
  rw [tbI_s (k := 15) rfl rfl] at hP hD
  refine lv_dup hx hb d_D_init_1216 rfl ?_
  refine lv_bipush (v := (16 : Int32)) hx hb d_D_init_1217 (by decide) ?_
  refine lv_sipush (v := (136 : Int32)) hx hb d_D_init_1219 (by decide) ?_
  refine va_iast hx hb hK hP hD hS 3 2 rfl rfl (by unfold vp_in; decide) d_D_init_1222 (fun H locs hP hD hS => ?_)
  have hP : va_P D vwCl ([(x0, .inr (6, fs)), (x1, .inl (c1, 91, .inr (.inl f1))), (x2, .inl (c2, 91, .inl f2)), (q, .inl (cq, 91, .inl (upd (tbI cdL 16) (16 : Int32).toNatClampNeg (136 : Int32))))]) H := hP
  have hD : va_D A ([(x0, .inr (6, fs)), (x1, .inl (c1, 91, .inr (.inl f1))), (x2, .inl (c2, 91, .inl f2)), (q, .inl (cq, 91, .inl (upd (tbI cdL 16) (16 : Int32).toNatClampNeg (136 : Int32))))]) := hD
  rw [tbI_s (k := 16) rfl rfl] at hP hD
  refine lv_dup hx hb d_D_init_1223 rfl ?_
  refine lv_bipush (v := (17 : Int32)) hx hb d_D_init_1224 (by decide) ?_
  refine lv_sipush (v := (152 : Int32)) hx hb d_D_init_1226 (by decide) ?_
  refine va_iast hx hb hK hP hD hS 3 2 rfl rfl (by unfold vp_in; decide) d_D_init_1229 (fun H locs hP hD hS => ?_)
  have hP : va_P D vwCl ([(x0, .inr (6, fs)), (x1, .inl (c1, 91, .inr (.inl f1))), (x2, .inl (c2, 91, .inl f2)), (q, .inl (cq, 91, .inl (upd (tbI cdL 17) (17 : Int32).toNatClampNeg (152 : Int32))))]) H := hP
  have hD : va_D A ([(x0, .inr (6, fs)), (x1, .inl (c1, 91, .inr (.inl f1))), (x2, .inl (c2, 91, .inl f2)), (q, .inl (cq, 91, .inl (upd (tbI cdL 17) (17 : Int32).toNatClampNeg (152 : Int32))))]) := hD
  rw [tbI_s (k := 17) rfl rfl] at hP hD
  refine lv_dup hx hb d_D_init_1230 rfl ?_
  refine lv_bipush (v := (18 : Int32)) hx hb d_D_init_1231 (by decide) ?_
  refine lv_sipush (v := (140 : Int32)) hx hb d_D_init_1233 (by decide) ?_
  refine va_iast hx hb hK hP hD hS 3 2 rfl rfl (by unfold vp_in; decide) d_D_init_1236 (fun H locs hP hD hS => ?_)
  have hP : va_P D vwCl ([(x0, .inr (6, fs)), (x1, .inl (c1, 91, .inr (.inl f1))), (x2, .inl (c2, 91, .inl f2)), (q, .inl (cq, 91, .inl (upd (tbI cdL 18) (18 : Int32).toNatClampNeg (140 : Int32))))]) H := hP
  have hD : va_D A ([(x0, .inr (6, fs)), (x1, .inl (c1, 91, .inr (.inl f1))), (x2, .inl (c2, 91, .inl f2)), (q, .inl (cq, 91, .inl (upd (tbI cdL 18) (18 : Int32).toNatClampNeg (140 : Int32))))]) := hD
  rw [tbI_s (k := 18) rfl rfl] at hP hD
  refine lv_dup hx hb d_D_init_1237 rfl ?_
  refine lv_bipush (v := (19 : Int32)) hx hb d_D_init_1238 (by decide) ?_
  refine lv_sipush (v := (156 : Int32)) hx hb d_D_init_1240 (by decide) ?_
  refine va_iast hx hb hK hP hD hS 3 2 rfl rfl (by unfold vp_in; decide) d_D_init_1243 (fun H locs hP hD hS => ?_)
  have hP : va_P D vwCl ([(x0, .inr (6, fs)), (x1, .inl (c1, 91, .inr (.inl f1))), (x2, .inl (c2, 91, .inl f2)), (q, .inl (cq, 91, .inl (upd (tbI cdL 19) (19 : Int32).toNatClampNeg (156 : Int32))))]) H := hP
  have hD : va_D A ([(x0, .inr (6, fs)), (x1, .inl (c1, 91, .inr (.inl f1))), (x2, .inl (c2, 91, .inl f2)), (q, .inl (cq, 91, .inl (upd (tbI cdL 19) (19 : Int32).toNatClampNeg (156 : Int32))))]) := hD
  rw [tbI_s (k := 19) rfl rfl] at hP hD
  refine lv_dup hx hb d_D_init_1244 rfl ?_
  refine lv_bipush (v := (20 : Int32)) hx hb d_D_init_1245 (by decide) ?_
  refine lv_sipush (v := (138 : Int32)) hx hb d_D_init_1247 (by decide) ?_
  refine va_iast hx hb hK hP hD hS 3 2 rfl rfl (by unfold vp_in; decide) d_D_init_1250 (fun H locs hP hD hS => ?_)
  have hP : va_P D vwCl ([(x0, .inr (6, fs)), (x1, .inl (c1, 91, .inr (.inl f1))), (x2, .inl (c2, 91, .inl f2)), (q, .inl (cq, 91, .inl (upd (tbI cdL 20) (20 : Int32).toNatClampNeg (138 : Int32))))]) H := hP
  have hD : va_D A ([(x0, .inr (6, fs)), (x1, .inl (c1, 91, .inr (.inl f1))), (x2, .inl (c2, 91, .inl f2)), (q, .inl (cq, 91, .inl (upd (tbI cdL 20) (20 : Int32).toNatClampNeg (138 : Int32))))]) := hD
  rw [tbI_s (k := 20) rfl rfl] at hP hD
  refine lv_dup hx hb d_D_init_1251 rfl ?_
  refine lv_bipush (v := (21 : Int32)) hx hb d_D_init_1252 (by decide) ?_
  refine lv_sipush (v := (154 : Int32)) hx hb d_D_init_1254 (by decide) ?_
  refine va_iast hx hb hK hP hD hS 3 2 rfl rfl (by unfold vp_in; decide) d_D_init_1257 (fun H locs hP hD hS => ?_)
  have hP : va_P D vwCl ([(x0, .inr (6, fs)), (x1, .inl (c1, 91, .inr (.inl f1))), (x2, .inl (c2, 91, .inl f2)), (q, .inl (cq, 91, .inl (upd (tbI cdL 21) (21 : Int32).toNatClampNeg (154 : Int32))))]) H := hP
  have hD : va_D A ([(x0, .inr (6, fs)), (x1, .inl (c1, 91, .inr (.inl f1))), (x2, .inl (c2, 91, .inl f2)), (q, .inl (cq, 91, .inl (upd (tbI cdL 21) (21 : Int32).toNatClampNeg (154 : Int32))))]) := hD
  rw [tbI_s (k := 21) rfl rfl] at hP hD
  refine lv_dup hx hb d_D_init_1258 rfl ?_
  refine lv_bipush (v := (22 : Int32)) hx hb d_D_init_1259 (by decide) ?_
  refine lv_sipush (v := (139 : Int32)) hx hb d_D_init_1261 (by decide) ?_
  refine va_iast hx hb hK hP hD hS 3 2 rfl rfl (by unfold vp_in; decide) d_D_init_1264 (fun H locs hP hD hS => ?_)
  have hP : va_P D vwCl ([(x0, .inr (6, fs)), (x1, .inl (c1, 91, .inr (.inl f1))), (x2, .inl (c2, 91, .inl f2)), (q, .inl (cq, 91, .inl (upd (tbI cdL 22) (22 : Int32).toNatClampNeg (139 : Int32))))]) H := hP
  have hD : va_D A ([(x0, .inr (6, fs)), (x1, .inl (c1, 91, .inr (.inl f1))), (x2, .inl (c2, 91, .inl f2)), (q, .inl (cq, 91, .inl (upd (tbI cdL 22) (22 : Int32).toNatClampNeg (139 : Int32))))]) := hD
  rw [tbI_s (k := 22) rfl rfl] at hP hD
  refine lv_dup hx hb d_D_init_1265 rfl ?_
  refine lv_bipush (v := (23 : Int32)) hx hb d_D_init_1266 (by decide) ?_
  refine lv_sipush (v := (155 : Int32)) hx hb d_D_init_1268 (by decide) ?_
  refine va_iast hx hb hK hP hD hS 3 2 rfl rfl (by unfold vp_in; decide) d_D_init_1271 (fun H locs hP hD hS => ?_)
  have hP : va_P D vwCl ([(x0, .inr (6, fs)), (x1, .inl (c1, 91, .inr (.inl f1))), (x2, .inl (c2, 91, .inl f2)), (q, .inl (cq, 91, .inl (upd (tbI cdL 23) (23 : Int32).toNatClampNeg (155 : Int32))))]) H := hP
  have hD : va_D A ([(x0, .inr (6, fs)), (x1, .inl (c1, 91, .inr (.inl f1))), (x2, .inl (c2, 91, .inl f2)), (q, .inl (cq, 91, .inl (upd (tbI cdL 23) (23 : Int32).toNatClampNeg (155 : Int32))))]) := hD
  rw [tbI_s (k := 23) rfl rfl] at hP hD
  refine lv_dup hx hb d_D_init_1272 rfl ?_
  refine lv_bipush (v := (24 : Int32)) hx hb d_D_init_1273 (by decide) ?_
  refine lv_sipush (v := (142 : Int32)) hx hb d_D_init_1275 (by decide) ?_
  refine va_iast hx hb hK hP hD hS 3 2 rfl rfl (by unfold vp_in; decide) d_D_init_1278 (fun H locs hP hD hS => ?_)
  have hP : va_P D vwCl ([(x0, .inr (6, fs)), (x1, .inl (c1, 91, .inr (.inl f1))), (x2, .inl (c2, 91, .inl f2)), (q, .inl (cq, 91, .inl (upd (tbI cdL 24) (24 : Int32).toNatClampNeg (142 : Int32))))]) H := hP
  have hD : va_D A ([(x0, .inr (6, fs)), (x1, .inl (c1, 91, .inr (.inl f1))), (x2, .inl (c2, 91, .inl f2)), (q, .inl (cq, 91, .inl (upd (tbI cdL 24) (24 : Int32).toNatClampNeg (142 : Int32))))]) := hD
  rw [tbI_s (k := 24) rfl rfl] at hP hD
  refine lv_dup hx hb d_D_init_1279 rfl ?_
  refine lv_bipush (v := (25 : Int32)) hx hb d_D_init_1280 (by decide) ?_
  refine lv_sipush (v := (158 : Int32)) hx hb d_D_init_1282 (by decide) ?_
  refine va_iast hx hb hK hP hD hS 3 2 rfl rfl (by unfold vp_in; decide) d_D_init_1285 (fun H locs hP hD hS => ?_)
  have hP : va_P D vwCl ([(x0, .inr (6, fs)), (x1, .inl (c1, 91, .inr (.inl f1))), (x2, .inl (c2, 91, .inl f2)), (q, .inl (cq, 91, .inl (upd (tbI cdL 25) (25 : Int32).toNatClampNeg (158 : Int32))))]) H := hP
  have hD : va_D A ([(x0, .inr (6, fs)), (x1, .inl (c1, 91, .inr (.inl f1))), (x2, .inl (c2, 91, .inl f2)), (q, .inl (cq, 91, .inl (upd (tbI cdL 25) (25 : Int32).toNatClampNeg (158 : Int32))))]) := hD
  rw [tbI_s (k := 25) rfl rfl] at hP hD
  exact kk H locs hP hD hS
set_option maxHeartbeats 4000000 in
set_option maxRecDepth 100000 in
theorem ch_D_init_1286 {p : Program} {l : Launch} {e : Env} {R : Room} {s : State} {m : MethodId} {args : Array Value} {below : List Frame} {meth : Method} {c : Code} {H : Heap} {locs : List Loc} {cells slots : Nat} {Q : State → Prop} {ls : Array Slot} {D : va_G} {A : Nat → Prop} {fs : List Value} {x0 : Nat} {x1 : Nat} {c1 : ClassId} {f1 : Nat → Int64} {x2 : Nat} {c2 : ClassId} {f2 : Nat → Int32} {q : Nat} {cq : ClassId} {rest : List Value} (hx : p.tables.exec = Jvm.exec) (hb : c.code = c_D_init) (hown : s.vm.findClass "WindowMachineModel" = some m.cls) (ht : ∀ w9 ∈ zT, w9.before args s = true) (hK : va_K D vwCl [(c1, .long), (c2, .int), (cq, .int)] s) (hP : va_P D vwCl [(x0, .inr (6, fs)), (x1, .inl (c1, 91, .inr (.inl f1))), (x2, .inl (c2, 91, .inl f2)), (q, .inl (cq, 91, .inl (tbI cdL 26)))] H) (hD : va_D A [(x0, .inr (6, fs)), (x1, .inl (c1, 91, .inr (.inl f1))), (x2, .inl (c2, 91, .inl f2)), (q, .inl (cq, 91, .inl (tbI cdL 26)))]) (hS : va_S A s.heap H locs)
    (kk : ∀ (H : Heap) (locs : List Loc), va_P D vwCl [(x0, .inr (6, fs)), (x1, .inl (c1, 91, .inr (.inl f1))), (x2, .inl (c2, 91, .inl f2)), (q, .inl (cq, 91, .inl (tbI cdL 39)))] H → va_D A [(x0, .inr (6, fs)), (x1, .inl (c1, 91, .inr (.inl f1))), (x2, .inl (c2, 91, .inl f2)), (q, .inl (cq, 91, .inl (tbI cdL 39)))] → va_S A s.heap H locs → W p l e R s m args below meth c H locs cells slots Q (F0 m 1372 ls (.ref q :: rest))) : W p l e R s m args below meth c H locs cells slots Q (F0 m 1286 ls (.ref q :: rest)) := by
  refine lv_dup hx hb d_D_init_1286 rfl ?_
  refine lv_bipush (v := (26 : Int32)) hx hb d_D_init_1287 (by decide) ?_
  refine lv_sipush (v := (143 : Int32)) hx hb d_D_init_1289 (by decide) ?_
  refine va_iast hx hb hK hP hD hS 3 2 rfl rfl (by unfold vp_in; decide) d_D_init_1292 (fun H locs hP hD hS => ?_)
  have hP : va_P D vwCl ([(x0, .inr (6, fs)), (x1, .inl (c1, 91, .inr (.inl f1))), (x2, .inl (c2, 91, .inl f2)), (q, .inl (cq, 91, .inl (upd (tbI cdL 26) (26 : Int32).toNatClampNeg (143 : Int32))))]) H := hP
  have hD : va_D A ([(x0, .inr (6, fs)), (x1, .inl (c1, 91, .inr (.inl f1))), (x2, .inl (c2, 91, .inl f2)), (q, .inl (cq, 91, .inl (upd (tbI cdL 26) (26 : Int32).toNatClampNeg (143 : Int32))))]) := hD
  rw [tbI_s (k := 26) rfl rfl] at hP hD
  refine lv_dup hx hb d_D_init_1293 rfl ?_
  refine lv_bipush (v := (27 : Int32)) hx hb d_D_init_1294 (by decide) ?_
  refine lv_sipush (v := (159 : Int32)) hx hb d_D_init_1296 (by decide) ?_
  refine va_iast hx hb hK hP hD hS 3 2 rfl rfl (by unfold vp_in; decide) d_D_init_1299 (fun H locs hP hD hS => ?_)
  have hP : va_P D vwCl ([(x0, .inr (6, fs)), (x1, .inl (c1, 91, .inr (.inl f1))), (x2, .inl (c2, 91, .inl f2)), (q, .inl (cq, 91, .inl (upd (tbI cdL 27) (27 : Int32).toNatClampNeg (159 : Int32))))]) H := hP
  have hD : va_D A ([(x0, .inr (6, fs)), (x1, .inl (c1, 91, .inr (.inl f1))), (x2, .inl (c2, 91, .inl f2)), (q, .inl (cq, 91, .inl (upd (tbI cdL 27) (27 : Int32).toNatClampNeg (159 : Int32))))]) := hD
  rw [tbI_s (k := 27) rfl rfl] at hP hD
  refine lv_dup hx hb d_D_init_1300 rfl ?_
  refine lv_bipush (v := (28 : Int32)) hx hb d_D_init_1301 (by decide) ?_
  refine lv_sipush (v := (164 : Int32)) hx hb d_D_init_1303 (by decide) ?_
  refine va_iast hx hb hK hP hD hS 3 2 rfl rfl (by unfold vp_in; decide) d_D_init_1306 (fun H locs hP hD hS => ?_)
  have hP : va_P D vwCl ([(x0, .inr (6, fs)), (x1, .inl (c1, 91, .inr (.inl f1))), (x2, .inl (c2, 91, .inl f2)), (q, .inl (cq, 91, .inl (upd (tbI cdL 28) (28 : Int32).toNatClampNeg (164 : Int32))))]) H := hP
  have hD : va_D A ([(x0, .inr (6, fs)), (x1, .inl (c1, 91, .inr (.inl f1))), (x2, .inl (c2, 91, .inl f2)), (q, .inl (cq, 91, .inl (upd (tbI cdL 28) (28 : Int32).toNatClampNeg (164 : Int32))))]) := hD
  rw [tbI_s (k := 28) rfl rfl] at hP hD
  refine lv_dup hx hb d_D_init_1307 rfl ?_
  refine lv_bipush (v := (29 : Int32)) hx hb d_D_init_1308 (by decide) ?_
  refine lv_sipush (v := (165 : Int32)) hx hb d_D_init_1310 (by decide) ?_
  refine va_iast hx hb hK hP hD hS 3 2 rfl rfl (by unfold vp_in; decide) d_D_init_1313 (fun H locs hP hD hS => ?_)
  have hP : va_P D vwCl ([(x0, .inr (6, fs)), (x1, .inl (c1, 91, .inr (.inl f1))), (x2, .inl (c2, 91, .inl f2)), (q, .inl (cq, 91, .inl (upd (tbI cdL 29) (29 : Int32).toNatClampNeg (165 : Int32))))]) H := hP
  have hD : va_D A ([(x0, .inr (6, fs)), (x1, .inl (c1, 91, .inr (.inl f1))), (x2, .inl (c2, 91, .inl f2)), (q, .inl (cq, 91, .inl (upd (tbI cdL 29) (29 : Int32).toNatClampNeg (165 : Int32))))]) := hD
  rw [tbI_s (k := 29) rfl rfl] at hP hD
  refine lv_dup hx hb d_D_init_1314 rfl ?_
  refine lv_bipush (v := (30 : Int32)) hx hb d_D_init_1315 (by decide) ?_
  refine lv_sipush (v := (166 : Int32)) hx hb d_D_init_1317 (by decide) ?_
  refine va_iast hx hb hK hP hD hS 3 2 rfl rfl (by unfold vp_in; decide) d_D_init_1320 (fun H locs hP hD hS => ?_)
  have hP : va_P D vwCl ([(x0, .inr (6, fs)), (x1, .inl (c1, 91, .inr (.inl f1))), (x2, .inl (c2, 91, .inl f2)), (q, .inl (cq, 91, .inl (upd (tbI cdL 30) (30 : Int32).toNatClampNeg (166 : Int32))))]) H := hP
  have hD : va_D A ([(x0, .inr (6, fs)), (x1, .inl (c1, 91, .inr (.inl f1))), (x2, .inl (c2, 91, .inl f2)), (q, .inl (cq, 91, .inl (upd (tbI cdL 30) (30 : Int32).toNatClampNeg (166 : Int32))))]) := hD
  rw [tbI_s (k := 30) rfl rfl] at hP hD
  refine lv_dup hx hb d_D_init_1321 rfl ?_
  refine lv_bipush (v := (31 : Int32)) hx hb d_D_init_1322 (by decide) ?_
  refine lv_sipush (v := (167 : Int32)) hx hb d_D_init_1324 (by decide) ?_
  refine va_iast hx hb hK hP hD hS 3 2 rfl rfl (by unfold vp_in; decide) d_D_init_1327 (fun H locs hP hD hS => ?_)
  have hP : va_P D vwCl ([(x0, .inr (6, fs)), (x1, .inl (c1, 91, .inr (.inl f1))), (x2, .inl (c2, 91, .inl f2)), (q, .inl (cq, 91, .inl (upd (tbI cdL 31) (31 : Int32).toNatClampNeg (167 : Int32))))]) H := hP
  have hD : va_D A ([(x0, .inr (6, fs)), (x1, .inl (c1, 91, .inr (.inl f1))), (x2, .inl (c2, 91, .inl f2)), (q, .inl (cq, 91, .inl (upd (tbI cdL 31) (31 : Int32).toNatClampNeg (167 : Int32))))]) := hD
  rw [tbI_s (k := 31) rfl rfl] at hP hD
  refine lv_dup hx hb d_D_init_1328 rfl ?_
  refine lv_bipush (v := (32 : Int32)) hx hb d_D_init_1329 (by decide) ?_
  refine lv_sipush (v := (184 : Int32)) hx hb d_D_init_1331 (by decide) ?_
  refine va_iast hx hb hK hP hD hS 3 2 rfl rfl (by unfold vp_in; decide) d_D_init_1334 (fun H locs hP hD hS => ?_)
  have hP : va_P D vwCl ([(x0, .inr (6, fs)), (x1, .inl (c1, 91, .inr (.inl f1))), (x2, .inl (c2, 91, .inl f2)), (q, .inl (cq, 91, .inl (upd (tbI cdL 32) (32 : Int32).toNatClampNeg (184 : Int32))))]) H := hP
  have hD : va_D A ([(x0, .inr (6, fs)), (x1, .inl (c1, 91, .inr (.inl f1))), (x2, .inl (c2, 91, .inl f2)), (q, .inl (cq, 91, .inl (upd (tbI cdL 32) (32 : Int32).toNatClampNeg (184 : Int32))))]) := hD
  rw [tbI_s (k := 32) rfl rfl] at hP hD
  refine lv_dup hx hb d_D_init_1335 rfl ?_
  refine lv_bipush (v := (33 : Int32)) hx hb d_D_init_1336 (by decide) ?_
  refine lv_sipush (v := (188 : Int32)) hx hb d_D_init_1338 (by decide) ?_
  refine va_iast hx hb hK hP hD hS 3 2 rfl rfl (by unfold vp_in; decide) d_D_init_1341 (fun H locs hP hD hS => ?_)
  have hP : va_P D vwCl ([(x0, .inr (6, fs)), (x1, .inl (c1, 91, .inr (.inl f1))), (x2, .inl (c2, 91, .inl f2)), (q, .inl (cq, 91, .inl (upd (tbI cdL 33) (33 : Int32).toNatClampNeg (188 : Int32))))]) H := hP
  have hD : va_D A ([(x0, .inr (6, fs)), (x1, .inl (c1, 91, .inr (.inl f1))), (x2, .inl (c2, 91, .inl f2)), (q, .inl (cq, 91, .inl (upd (tbI cdL 33) (33 : Int32).toNatClampNeg (188 : Int32))))]) := hD
  rw [tbI_s (k := 33) rfl rfl] at hP hD
  refine lv_dup hx hb d_D_init_1342 rfl ?_
  refine lv_bipush (v := (34 : Int32)) hx hb d_D_init_1343 (by decide) ?_
  refine lv_sipush (v := (189 : Int32)) hx hb d_D_init_1345 (by decide) ?_
  refine va_iast hx hb hK hP hD hS 3 2 rfl rfl (by unfold vp_in; decide) d_D_init_1348 (fun H locs hP hD hS => ?_)
  have hP : va_P D vwCl ([(x0, .inr (6, fs)), (x1, .inl (c1, 91, .inr (.inl f1))), (x2, .inl (c2, 91, .inl f2)), (q, .inl (cq, 91, .inl (upd (tbI cdL 34) (34 : Int32).toNatClampNeg (189 : Int32))))]) H := hP
  have hD : va_D A ([(x0, .inr (6, fs)), (x1, .inl (c1, 91, .inr (.inl f1))), (x2, .inl (c2, 91, .inl f2)), (q, .inl (cq, 91, .inl (upd (tbI cdL 34) (34 : Int32).toNatClampNeg (189 : Int32))))]) := hD
  rw [tbI_s (k := 34) rfl rfl] at hP hD
  refine lv_dup hx hb d_D_init_1349 rfl ?_
  refine lv_bipush (v := (35 : Int32)) hx hb d_D_init_1350 (by decide) ?_
  refine lv_iconst (v := (0 : Int32)) hx hb d_D_init_1352 (by decide) ?_
  refine va_iast hx hb hK hP hD hS 3 2 rfl rfl (by unfold vp_in; decide) d_D_init_1353 (fun H locs hP hD hS => ?_)
  have hP : va_P D vwCl ([(x0, .inr (6, fs)), (x1, .inl (c1, 91, .inr (.inl f1))), (x2, .inl (c2, 91, .inl f2)), (q, .inl (cq, 91, .inl (upd (tbI cdL 35) (35 : Int32).toNatClampNeg (0 : Int32))))]) H := hP
  have hD : va_D A ([(x0, .inr (6, fs)), (x1, .inl (c1, 91, .inr (.inl f1))), (x2, .inl (c2, 91, .inl f2)), (q, .inl (cq, 91, .inl (upd (tbI cdL 35) (35 : Int32).toNatClampNeg (0 : Int32))))]) := hD
  rw [tbI_s (k := 35) rfl rfl] at hP hD
  refine lv_dup hx hb d_D_init_1354 rfl ?_
  refine lv_bipush (v := (36 : Int32)) hx hb d_D_init_1355 (by decide) ?_
  refine lv_bipush (v := (40 : Int32)) hx hb d_D_init_1357 (by decide) ?_
  refine va_iast hx hb hK hP hD hS 3 2 rfl rfl (by unfold vp_in; decide) d_D_init_1359 (fun H locs hP hD hS => ?_)
  have hP : va_P D vwCl ([(x0, .inr (6, fs)), (x1, .inl (c1, 91, .inr (.inl f1))), (x2, .inl (c2, 91, .inl f2)), (q, .inl (cq, 91, .inl (upd (tbI cdL 36) (36 : Int32).toNatClampNeg (40 : Int32))))]) H := hP
  have hD : va_D A ([(x0, .inr (6, fs)), (x1, .inl (c1, 91, .inr (.inl f1))), (x2, .inl (c2, 91, .inl f2)), (q, .inl (cq, 91, .inl (upd (tbI cdL 36) (36 : Int32).toNatClampNeg (40 : Int32))))]) := hD
  rw [tbI_s (k := 36) rfl rfl] at hP hD
  refine lv_dup hx hb d_D_init_1360 rfl ?_
  refine lv_bipush (v := (37 : Int32)) hx hb d_D_init_1361 (by decide) ?_
  refine lv_bipush (v := (41 : Int32)) hx hb d_D_init_1363 (by decide) ?_
  refine va_iast hx hb hK hP hD hS 3 2 rfl rfl (by unfold vp_in; decide) d_D_init_1365 (fun H locs hP hD hS => ?_)
  have hP : va_P D vwCl ([(x0, .inr (6, fs)), (x1, .inl (c1, 91, .inr (.inl f1))), (x2, .inl (c2, 91, .inl f2)), (q, .inl (cq, 91, .inl (upd (tbI cdL 37) (37 : Int32).toNatClampNeg (41 : Int32))))]) H := hP
  have hD : va_D A ([(x0, .inr (6, fs)), (x1, .inl (c1, 91, .inr (.inl f1))), (x2, .inl (c2, 91, .inl f2)), (q, .inl (cq, 91, .inl (upd (tbI cdL 37) (37 : Int32).toNatClampNeg (41 : Int32))))]) := hD
  rw [tbI_s (k := 37) rfl rfl] at hP hD
  refine lv_dup hx hb d_D_init_1366 rfl ?_
  refine lv_bipush (v := (38 : Int32)) hx hb d_D_init_1367 (by decide) ?_
  refine lv_bipush (v := (42 : Int32)) hx hb d_D_init_1369 (by decide) ?_
  refine va_iast hx hb hK hP hD hS 3 2 rfl rfl (by unfold vp_in; decide) d_D_init_1371 (fun H locs hP hD hS => ?_)
  have hP : va_P D vwCl ([(x0, .inr (6, fs)), (x1, .inl (c1, 91, .inr (.inl f1))), (x2, .inl (c2, 91, .inl f2)), (q, .inl (cq, 91, .inl (upd (tbI cdL 38) (38 : Int32).toNatClampNeg (42 : Int32))))]) H := hP
  have hD : va_D A ([(x0, .inr (6, fs)), (x1, .inl (c1, 91, .inr (.inl f1))), (x2, .inl (c2, 91, .inl f2)), (q, .inl (cq, 91, .inl (upd (tbI cdL 38) (38 : Int32).toNatClampNeg (42 : Int32))))]) := hD
  rw [tbI_s (k := 38) rfl rfl] at hP hD
  exact kk H locs hP hD hS
set_option maxHeartbeats 4000000 in
set_option maxRecDepth 100000 in
theorem ch_D_init_1372 {p : Program} {l : Launch} {e : Env} {R : Room} {s : State} {m : MethodId} {args : Array Value} {below : List Frame} {meth : Method} {c : Code} {H : Heap} {locs : List Loc} {cells slots : Nat} {Q : State → Prop} {ls : Array Slot} {D : va_G} {A : Nat → Prop} {fs : List Value} {x0 : Nat} {x1 : Nat} {c1 : ClassId} {f1 : Nat → Int64} {x2 : Nat} {c2 : ClassId} {f2 : Nat → Int32} {q : Nat} {cq : ClassId} {rest : List Value} (hx : p.tables.exec = Jvm.exec) (hb : c.code = c_D_init) (hown : s.vm.findClass "WindowMachineModel" = some m.cls) (ht : ∀ w9 ∈ zT, w9.before args s = true) (hK : va_K D vwCl [(c1, .long), (c2, .int), (cq, .int)] s) (hP : va_P D vwCl [(x0, .inr (6, fs)), (x1, .inl (c1, 91, .inr (.inl f1))), (x2, .inl (c2, 91, .inl f2)), (q, .inl (cq, 91, .inl (tbI cdL 39)))] H) (hD : va_D A [(x0, .inr (6, fs)), (x1, .inl (c1, 91, .inr (.inl f1))), (x2, .inl (c2, 91, .inl f2)), (q, .inl (cq, 91, .inl (tbI cdL 39)))]) (hS : va_S A s.heap H locs)
    (kk : ∀ (H : Heap) (locs : List Loc), va_P D vwCl [(x0, .inr (6, fs)), (x1, .inl (c1, 91, .inr (.inl f1))), (x2, .inl (c2, 91, .inl f2)), (q, .inl (cq, 91, .inl (tbI cdL 52)))] H → va_D A [(x0, .inr (6, fs)), (x1, .inl (c1, 91, .inr (.inl f1))), (x2, .inl (c2, 91, .inl f2)), (q, .inl (cq, 91, .inl (tbI cdL 52)))] → va_S A s.heap H locs → W p l e R s m args below meth c H locs cells slots Q (F0 m 1454 ls (.ref q :: rest))) : W p l e R s m args below meth c H locs cells slots Q (F0 m 1372 ls (.ref q :: rest)) := by
  refine lv_dup hx hb d_D_init_1372 rfl ?_
  refine lv_bipush (v := (39 : Int32)) hx hb d_D_init_1373 (by decide) ?_
  refine lv_bipush (v := (43 : Int32)) hx hb d_D_init_1375 (by decide) ?_
  refine va_iast hx hb hK hP hD hS 3 2 rfl rfl (by unfold vp_in; decide) d_D_init_1377 (fun H locs hP hD hS => ?_)
  have hP : va_P D vwCl ([(x0, .inr (6, fs)), (x1, .inl (c1, 91, .inr (.inl f1))), (x2, .inl (c2, 91, .inl f2)), (q, .inl (cq, 91, .inl (upd (tbI cdL 39) (39 : Int32).toNatClampNeg (43 : Int32))))]) H := hP
  have hD : va_D A ([(x0, .inr (6, fs)), (x1, .inl (c1, 91, .inr (.inl f1))), (x2, .inl (c2, 91, .inl f2)), (q, .inl (cq, 91, .inl (upd (tbI cdL 39) (39 : Int32).toNatClampNeg (43 : Int32))))]) := hD
  rw [tbI_s (k := 39) rfl rfl] at hP hD
  refine lv_dup hx hb d_D_init_1378 rfl ?_
  refine lv_bipush (v := (40 : Int32)) hx hb d_D_init_1379 (by decide) ?_
  refine lv_sipush (v := (1536 : Int32)) hx hb d_D_init_1381 (by decide) ?_
  refine va_iast hx hb hK hP hD hS 3 2 rfl rfl (by unfold vp_in; decide) d_D_init_1384 (fun H locs hP hD hS => ?_)
  have hP : va_P D vwCl ([(x0, .inr (6, fs)), (x1, .inl (c1, 91, .inr (.inl f1))), (x2, .inl (c2, 91, .inl f2)), (q, .inl (cq, 91, .inl (upd (tbI cdL 40) (40 : Int32).toNatClampNeg (1536 : Int32))))]) H := hP
  have hD : va_D A ([(x0, .inr (6, fs)), (x1, .inl (c1, 91, .inr (.inl f1))), (x2, .inl (c2, 91, .inl f2)), (q, .inl (cq, 91, .inl (upd (tbI cdL 40) (40 : Int32).toNatClampNeg (1536 : Int32))))]) := hD
  rw [tbI_s (k := 40) rfl rfl] at hP hD
  refine lv_dup hx hb d_D_init_1385 rfl ?_
  refine lv_bipush (v := (41 : Int32)) hx hb d_D_init_1386 (by decide) ?_
  refine lv_sipush (v := (1568 : Int32)) hx hb d_D_init_1388 (by decide) ?_
  refine va_iast hx hb hK hP hD hS 3 2 rfl rfl (by unfold vp_in; decide) d_D_init_1391 (fun H locs hP hD hS => ?_)
  have hP : va_P D vwCl ([(x0, .inr (6, fs)), (x1, .inl (c1, 91, .inr (.inl f1))), (x2, .inl (c2, 91, .inl f2)), (q, .inl (cq, 91, .inl (upd (tbI cdL 41) (41 : Int32).toNatClampNeg (1568 : Int32))))]) H := hP
  have hD : va_D A ([(x0, .inr (6, fs)), (x1, .inl (c1, 91, .inr (.inl f1))), (x2, .inl (c2, 91, .inl f2)), (q, .inl (cq, 91, .inl (upd (tbI cdL 41) (41 : Int32).toNatClampNeg (1568 : Int32))))]) := hD
  rw [tbI_s (k := 41) rfl rfl] at hP hD
  refine lv_dup hx hb d_D_init_1392 rfl ?_
  refine lv_bipush (v := (42 : Int32)) hx hb d_D_init_1393 (by decide) ?_
  refine lv_sipush (v := (1600 : Int32)) hx hb d_D_init_1395 (by decide) ?_
  refine va_iast hx hb hK hP hD hS 3 2 rfl rfl (by unfold vp_in; decide) d_D_init_1398 (fun H locs hP hD hS => ?_)
  have hP : va_P D vwCl ([(x0, .inr (6, fs)), (x1, .inl (c1, 91, .inr (.inl f1))), (x2, .inl (c2, 91, .inl f2)), (q, .inl (cq, 91, .inl (upd (tbI cdL 42) (42 : Int32).toNatClampNeg (1600 : Int32))))]) H := hP
  have hD : va_D A ([(x0, .inr (6, fs)), (x1, .inl (c1, 91, .inr (.inl f1))), (x2, .inl (c2, 91, .inl f2)), (q, .inl (cq, 91, .inl (upd (tbI cdL 42) (42 : Int32).toNatClampNeg (1600 : Int32))))]) := hD
  rw [tbI_s (k := 42) rfl rfl] at hP hD
  refine lv_dup hx hb d_D_init_1399 rfl ?_
  refine lv_bipush (v := (43 : Int32)) hx hb d_D_init_1400 (by decide) ?_
  refine lv_sipush (v := (1632 : Int32)) hx hb d_D_init_1402 (by decide) ?_
  refine va_iast hx hb hK hP hD hS 3 2 rfl rfl (by unfold vp_in; decide) d_D_init_1405 (fun H locs hP hD hS => ?_)
  have hP : va_P D vwCl ([(x0, .inr (6, fs)), (x1, .inl (c1, 91, .inr (.inl f1))), (x2, .inl (c2, 91, .inl f2)), (q, .inl (cq, 91, .inl (upd (tbI cdL 43) (43 : Int32).toNatClampNeg (1632 : Int32))))]) H := hP
  have hD : va_D A ([(x0, .inr (6, fs)), (x1, .inl (c1, 91, .inr (.inl f1))), (x2, .inl (c2, 91, .inl f2)), (q, .inl (cq, 91, .inl (upd (tbI cdL 43) (43 : Int32).toNatClampNeg (1632 : Int32))))]) := hD
  rw [tbI_s (k := 43) rfl rfl] at hP hD
  refine lv_dup hx hb d_D_init_1406 rfl ?_
  refine lv_bipush (v := (44 : Int32)) hx hb d_D_init_1407 (by decide) ?_
  refine lv_sipush (v := (1824 : Int32)) hx hb d_D_init_1409 (by decide) ?_
  refine va_iast hx hb hK hP hD hS 3 2 rfl rfl (by unfold vp_in; decide) d_D_init_1412 (fun H locs hP hD hS => ?_)
  have hP : va_P D vwCl ([(x0, .inr (6, fs)), (x1, .inl (c1, 91, .inr (.inl f1))), (x2, .inl (c2, 91, .inl f2)), (q, .inl (cq, 91, .inl (upd (tbI cdL 44) (44 : Int32).toNatClampNeg (1824 : Int32))))]) H := hP
  have hD : va_D A ([(x0, .inr (6, fs)), (x1, .inl (c1, 91, .inr (.inl f1))), (x2, .inl (c2, 91, .inl f2)), (q, .inl (cq, 91, .inl (upd (tbI cdL 44) (44 : Int32).toNatClampNeg (1824 : Int32))))]) := hD
  rw [tbI_s (k := 44) rfl rfl] at hP hD
  refine lv_dup hx hb d_D_init_1413 rfl ?_
  refine lv_bipush (v := (45 : Int32)) hx hb d_D_init_1414 (by decide) ?_
  refine lv_iconst (v := (0 : Int32)) hx hb d_D_init_1416 (by decide) ?_
  refine va_iast hx hb hK hP hD hS 3 2 rfl rfl (by unfold vp_in; decide) d_D_init_1417 (fun H locs hP hD hS => ?_)
  have hP : va_P D vwCl ([(x0, .inr (6, fs)), (x1, .inl (c1, 91, .inr (.inl f1))), (x2, .inl (c2, 91, .inl f2)), (q, .inl (cq, 91, .inl (upd (tbI cdL 45) (45 : Int32).toNatClampNeg (0 : Int32))))]) H := hP
  have hD : va_D A ([(x0, .inr (6, fs)), (x1, .inl (c1, 91, .inr (.inl f1))), (x2, .inl (c2, 91, .inl f2)), (q, .inl (cq, 91, .inl (upd (tbI cdL 45) (45 : Int32).toNatClampNeg (0 : Int32))))]) := hD
  rw [tbI_s (k := 45) rfl rfl] at hP hD
  refine lv_dup hx hb d_D_init_1418 rfl ?_
  refine lv_bipush (v := (46 : Int32)) hx hb d_D_init_1419 (by decide) ?_
  refine lv_iconst (v := (0 : Int32)) hx hb d_D_init_1421 (by decide) ?_
  refine va_iast hx hb hK hP hD hS 3 2 rfl rfl (by unfold vp_in; decide) d_D_init_1422 (fun H locs hP hD hS => ?_)
  have hP : va_P D vwCl ([(x0, .inr (6, fs)), (x1, .inl (c1, 91, .inr (.inl f1))), (x2, .inl (c2, 91, .inl f2)), (q, .inl (cq, 91, .inl (upd (tbI cdL 46) (46 : Int32).toNatClampNeg (0 : Int32))))]) H := hP
  have hD : va_D A ([(x0, .inr (6, fs)), (x1, .inl (c1, 91, .inr (.inl f1))), (x2, .inl (c2, 91, .inl f2)), (q, .inl (cq, 91, .inl (upd (tbI cdL 46) (46 : Int32).toNatClampNeg (0 : Int32))))]) := hD
  rw [tbI_s (k := 46) rfl rfl] at hP hD
  refine lv_dup hx hb d_D_init_1423 rfl ?_
  refine lv_bipush (v := (47 : Int32)) hx hb d_D_init_1424 (by decide) ?_
  refine lv_sipush (v := (1856 : Int32)) hx hb d_D_init_1426 (by decide) ?_
  refine va_iast hx hb hK hP hD hS 3 2 rfl rfl (by unfold vp_in; decide) d_D_init_1429 (fun H locs hP hD hS => ?_)
  have hP : va_P D vwCl ([(x0, .inr (6, fs)), (x1, .inl (c1, 91, .inr (.inl f1))), (x2, .inl (c2, 91, .inl f2)), (q, .inl (cq, 91, .inl (upd (tbI cdL 47) (47 : Int32).toNatClampNeg (1856 : Int32))))]) H := hP
  have hD : va_D A ([(x0, .inr (6, fs)), (x1, .inl (c1, 91, .inr (.inl f1))), (x2, .inl (c2, 91, .inl f2)), (q, .inl (cq, 91, .inl (upd (tbI cdL 47) (47 : Int32).toNatClampNeg (1856 : Int32))))]) := hD
  rw [tbI_s (k := 47) rfl rfl] at hP hD
  refine lv_dup hx hb d_D_init_1430 rfl ?_
  refine lv_bipush (v := (48 : Int32)) hx hb d_D_init_1431 (by decide) ?_
  refine lv_iconst (v := (1 : Int32)) hx hb d_D_init_1433 (by decide) ?_
  refine va_iast hx hb hK hP hD hS 3 2 rfl rfl (by unfold vp_in; decide) d_D_init_1434 (fun H locs hP hD hS => ?_)
  have hP : va_P D vwCl ([(x0, .inr (6, fs)), (x1, .inl (c1, 91, .inr (.inl f1))), (x2, .inl (c2, 91, .inl f2)), (q, .inl (cq, 91, .inl (upd (tbI cdL 48) (48 : Int32).toNatClampNeg (1 : Int32))))]) H := hP
  have hD : va_D A ([(x0, .inr (6, fs)), (x1, .inl (c1, 91, .inr (.inl f1))), (x2, .inl (c2, 91, .inl f2)), (q, .inl (cq, 91, .inl (upd (tbI cdL 48) (48 : Int32).toNatClampNeg (1 : Int32))))]) := hD
  rw [tbI_s (k := 48) rfl rfl] at hP hD
  refine lv_dup hx hb d_D_init_1435 rfl ?_
  refine lv_bipush (v := (49 : Int32)) hx hb d_D_init_1436 (by decide) ?_
  refine lv_sipush (v := (1857 : Int32)) hx hb d_D_init_1438 (by decide) ?_
  refine va_iast hx hb hK hP hD hS 3 2 rfl rfl (by unfold vp_in; decide) d_D_init_1441 (fun H locs hP hD hS => ?_)
  have hP : va_P D vwCl ([(x0, .inr (6, fs)), (x1, .inl (c1, 91, .inr (.inl f1))), (x2, .inl (c2, 91, .inl f2)), (q, .inl (cq, 91, .inl (upd (tbI cdL 49) (49 : Int32).toNatClampNeg (1857 : Int32))))]) H := hP
  have hD : va_D A ([(x0, .inr (6, fs)), (x1, .inl (c1, 91, .inr (.inl f1))), (x2, .inl (c2, 91, .inl f2)), (q, .inl (cq, 91, .inl (upd (tbI cdL 49) (49 : Int32).toNatClampNeg (1857 : Int32))))]) := hD
  rw [tbI_s (k := 49) rfl rfl] at hP hD
  refine lv_dup hx hb d_D_init_1442 rfl ?_
  refine lv_bipush (v := (50 : Int32)) hx hb d_D_init_1443 (by decide) ?_
  refine lv_iconst (v := (2 : Int32)) hx hb d_D_init_1445 (by decide) ?_
  refine va_iast hx hb hK hP hD hS 3 2 rfl rfl (by unfold vp_in; decide) d_D_init_1446 (fun H locs hP hD hS => ?_)
  have hP : va_P D vwCl ([(x0, .inr (6, fs)), (x1, .inl (c1, 91, .inr (.inl f1))), (x2, .inl (c2, 91, .inl f2)), (q, .inl (cq, 91, .inl (upd (tbI cdL 50) (50 : Int32).toNatClampNeg (2 : Int32))))]) H := hP
  have hD : va_D A ([(x0, .inr (6, fs)), (x1, .inl (c1, 91, .inr (.inl f1))), (x2, .inl (c2, 91, .inl f2)), (q, .inl (cq, 91, .inl (upd (tbI cdL 50) (50 : Int32).toNatClampNeg (2 : Int32))))]) := hD
  rw [tbI_s (k := 50) rfl rfl] at hP hD
  refine lv_dup hx hb d_D_init_1447 rfl ?_
  refine lv_bipush (v := (51 : Int32)) hx hb d_D_init_1448 (by decide) ?_
  refine lv_sipush (v := (1858 : Int32)) hx hb d_D_init_1450 (by decide) ?_
  refine va_iast hx hb hK hP hD hS 3 2 rfl rfl (by unfold vp_in; decide) d_D_init_1453 (fun H locs hP hD hS => ?_)
  have hP : va_P D vwCl ([(x0, .inr (6, fs)), (x1, .inl (c1, 91, .inr (.inl f1))), (x2, .inl (c2, 91, .inl f2)), (q, .inl (cq, 91, .inl (upd (tbI cdL 51) (51 : Int32).toNatClampNeg (1858 : Int32))))]) H := hP
  have hD : va_D A ([(x0, .inr (6, fs)), (x1, .inl (c1, 91, .inr (.inl f1))), (x2, .inl (c2, 91, .inl f2)), (q, .inl (cq, 91, .inl (upd (tbI cdL 51) (51 : Int32).toNatClampNeg (1858 : Int32))))]) := hD
  rw [tbI_s (k := 51) rfl rfl] at hP hD
  exact kk H locs hP hD hS
set_option maxHeartbeats 4000000 in
set_option maxRecDepth 100000 in
theorem ch_D_init_1454 {p : Program} {l : Launch} {e : Env} {R : Room} {s : State} {m : MethodId} {args : Array Value} {below : List Frame} {meth : Method} {c : Code} {H : Heap} {locs : List Loc} {cells slots : Nat} {Q : State → Prop} {ls : Array Slot} {D : va_G} {A : Nat → Prop} {fs : List Value} {x0 : Nat} {x1 : Nat} {c1 : ClassId} {f1 : Nat → Int64} {x2 : Nat} {c2 : ClassId} {f2 : Nat → Int32} {q : Nat} {cq : ClassId} {rest : List Value} (hx : p.tables.exec = Jvm.exec) (hb : c.code = c_D_init) (hown : s.vm.findClass "WindowMachineModel" = some m.cls) (ht : ∀ w9 ∈ zT, w9.before args s = true) (hK : va_K D vwCl [(c1, .long), (c2, .int), (cq, .int)] s) (hP : va_P D vwCl [(x0, .inr (6, fs)), (x1, .inl (c1, 91, .inr (.inl f1))), (x2, .inl (c2, 91, .inl f2)), (q, .inl (cq, 91, .inl (tbI cdL 52)))] H) (hD : va_D A [(x0, .inr (6, fs)), (x1, .inl (c1, 91, .inr (.inl f1))), (x2, .inl (c2, 91, .inl f2)), (q, .inl (cq, 91, .inl (tbI cdL 52)))]) (hS : va_S A s.heap H locs)
    (kk : ∀ (H : Heap) (locs : List Loc), va_P D vwCl [(x0, .inr (6, fs)), (x1, .inl (c1, 91, .inr (.inl f1))), (x2, .inl (c2, 91, .inl f2)), (q, .inl (cq, 91, .inl (tbI cdL 65)))] H → va_D A [(x0, .inr (6, fs)), (x1, .inl (c1, 91, .inr (.inl f1))), (x2, .inl (c2, 91, .inl f2)), (q, .inl (cq, 91, .inl (tbI cdL 65)))] → va_S A s.heap H locs → W p l e R s m args below meth c H locs cells slots Q (F0 m 1535 ls (.ref q :: rest))) : W p l e R s m args below meth c H locs cells slots Q (F0 m 1454 ls (.ref q :: rest)) := by
  refine lv_dup hx hb d_D_init_1454 rfl ?_
  refine lv_bipush (v := (52 : Int32)) hx hb d_D_init_1455 (by decide) ?_
  refine lv_iconst (v := (3 : Int32)) hx hb d_D_init_1457 (by decide) ?_
  refine va_iast hx hb hK hP hD hS 3 2 rfl rfl (by unfold vp_in; decide) d_D_init_1458 (fun H locs hP hD hS => ?_)
  have hP : va_P D vwCl ([(x0, .inr (6, fs)), (x1, .inl (c1, 91, .inr (.inl f1))), (x2, .inl (c2, 91, .inl f2)), (q, .inl (cq, 91, .inl (upd (tbI cdL 52) (52 : Int32).toNatClampNeg (3 : Int32))))]) H := hP
  have hD : va_D A ([(x0, .inr (6, fs)), (x1, .inl (c1, 91, .inr (.inl f1))), (x2, .inl (c2, 91, .inl f2)), (q, .inl (cq, 91, .inl (upd (tbI cdL 52) (52 : Int32).toNatClampNeg (3 : Int32))))]) := hD
  rw [tbI_s (k := 52) rfl rfl] at hP hD
  refine lv_dup hx hb d_D_init_1459 rfl ?_
  refine lv_bipush (v := (53 : Int32)) hx hb d_D_init_1460 (by decide) ?_
  refine lv_sipush (v := (1859 : Int32)) hx hb d_D_init_1462 (by decide) ?_
  refine va_iast hx hb hK hP hD hS 3 2 rfl rfl (by unfold vp_in; decide) d_D_init_1465 (fun H locs hP hD hS => ?_)
  have hP : va_P D vwCl ([(x0, .inr (6, fs)), (x1, .inl (c1, 91, .inr (.inl f1))), (x2, .inl (c2, 91, .inl f2)), (q, .inl (cq, 91, .inl (upd (tbI cdL 53) (53 : Int32).toNatClampNeg (1859 : Int32))))]) H := hP
  have hD : va_D A ([(x0, .inr (6, fs)), (x1, .inl (c1, 91, .inr (.inl f1))), (x2, .inl (c2, 91, .inl f2)), (q, .inl (cq, 91, .inl (upd (tbI cdL 53) (53 : Int32).toNatClampNeg (1859 : Int32))))]) := hD
  rw [tbI_s (k := 53) rfl rfl] at hP hD
  refine lv_dup hx hb d_D_init_1466 rfl ?_
  refine lv_bipush (v := (54 : Int32)) hx hb d_D_init_1467 (by decide) ?_
  refine lv_iconst (v := (4 : Int32)) hx hb d_D_init_1469 (by decide) ?_
  refine va_iast hx hb hK hP hD hS 3 2 rfl rfl (by unfold vp_in; decide) d_D_init_1470 (fun H locs hP hD hS => ?_)
  have hP : va_P D vwCl ([(x0, .inr (6, fs)), (x1, .inl (c1, 91, .inr (.inl f1))), (x2, .inl (c2, 91, .inl f2)), (q, .inl (cq, 91, .inl (upd (tbI cdL 54) (54 : Int32).toNatClampNeg (4 : Int32))))]) H := hP
  have hD : va_D A ([(x0, .inr (6, fs)), (x1, .inl (c1, 91, .inr (.inl f1))), (x2, .inl (c2, 91, .inl f2)), (q, .inl (cq, 91, .inl (upd (tbI cdL 54) (54 : Int32).toNatClampNeg (4 : Int32))))]) := hD
  rw [tbI_s (k := 54) rfl rfl] at hP hD
  refine lv_dup hx hb d_D_init_1471 rfl ?_
  refine lv_bipush (v := (55 : Int32)) hx hb d_D_init_1472 (by decide) ?_
  refine lv_sipush (v := (1860 : Int32)) hx hb d_D_init_1474 (by decide) ?_
  refine va_iast hx hb hK hP hD hS 3 2 rfl rfl (by unfold vp_in; decide) d_D_init_1477 (fun H locs hP hD hS => ?_)
  have hP : va_P D vwCl ([(x0, .inr (6, fs)), (x1, .inl (c1, 91, .inr (.inl f1))), (x2, .inl (c2, 91, .inl f2)), (q, .inl (cq, 91, .inl (upd (tbI cdL 55) (55 : Int32).toNatClampNeg (1860 : Int32))))]) H := hP
  have hD : va_D A ([(x0, .inr (6, fs)), (x1, .inl (c1, 91, .inr (.inl f1))), (x2, .inl (c2, 91, .inl f2)), (q, .inl (cq, 91, .inl (upd (tbI cdL 55) (55 : Int32).toNatClampNeg (1860 : Int32))))]) := hD
  rw [tbI_s (k := 55) rfl rfl] at hP hD
  refine lv_dup hx hb d_D_init_1478 rfl ?_
  refine lv_bipush (v := (56 : Int32)) hx hb d_D_init_1479 (by decide) ?_
  refine lv_iconst (v := (5 : Int32)) hx hb d_D_init_1481 (by decide) ?_
  refine va_iast hx hb hK hP hD hS 3 2 rfl rfl (by unfold vp_in; decide) d_D_init_1482 (fun H locs hP hD hS => ?_)
  have hP : va_P D vwCl ([(x0, .inr (6, fs)), (x1, .inl (c1, 91, .inr (.inl f1))), (x2, .inl (c2, 91, .inl f2)), (q, .inl (cq, 91, .inl (upd (tbI cdL 56) (56 : Int32).toNatClampNeg (5 : Int32))))]) H := hP
  have hD : va_D A ([(x0, .inr (6, fs)), (x1, .inl (c1, 91, .inr (.inl f1))), (x2, .inl (c2, 91, .inl f2)), (q, .inl (cq, 91, .inl (upd (tbI cdL 56) (56 : Int32).toNatClampNeg (5 : Int32))))]) := hD
  rw [tbI_s (k := 56) rfl rfl] at hP hD
  refine lv_dup hx hb d_D_init_1483 rfl ?_
  refine lv_bipush (v := (57 : Int32)) hx hb d_D_init_1484 (by decide) ?_
  refine lv_sipush (v := (1861 : Int32)) hx hb d_D_init_1486 (by decide) ?_
  refine va_iast hx hb hK hP hD hS 3 2 rfl rfl (by unfold vp_in; decide) d_D_init_1489 (fun H locs hP hD hS => ?_)
  have hP : va_P D vwCl ([(x0, .inr (6, fs)), (x1, .inl (c1, 91, .inr (.inl f1))), (x2, .inl (c2, 91, .inl f2)), (q, .inl (cq, 91, .inl (upd (tbI cdL 57) (57 : Int32).toNatClampNeg (1861 : Int32))))]) H := hP
  have hD : va_D A ([(x0, .inr (6, fs)), (x1, .inl (c1, 91, .inr (.inl f1))), (x2, .inl (c2, 91, .inl f2)), (q, .inl (cq, 91, .inl (upd (tbI cdL 57) (57 : Int32).toNatClampNeg (1861 : Int32))))]) := hD
  rw [tbI_s (k := 57) rfl rfl] at hP hD
  refine lv_dup hx hb d_D_init_1490 rfl ?_
  refine lv_bipush (v := (58 : Int32)) hx hb d_D_init_1491 (by decide) ?_
  refine lv_bipush (v := (6 : Int32)) hx hb d_D_init_1493 (by decide) ?_
  refine va_iast hx hb hK hP hD hS 3 2 rfl rfl (by unfold vp_in; decide) d_D_init_1495 (fun H locs hP hD hS => ?_)
  have hP : va_P D vwCl ([(x0, .inr (6, fs)), (x1, .inl (c1, 91, .inr (.inl f1))), (x2, .inl (c2, 91, .inl f2)), (q, .inl (cq, 91, .inl (upd (tbI cdL 58) (58 : Int32).toNatClampNeg (6 : Int32))))]) H := hP
  have hD : va_D A ([(x0, .inr (6, fs)), (x1, .inl (c1, 91, .inr (.inl f1))), (x2, .inl (c2, 91, .inl f2)), (q, .inl (cq, 91, .inl (upd (tbI cdL 58) (58 : Int32).toNatClampNeg (6 : Int32))))]) := hD
  rw [tbI_s (k := 58) rfl rfl] at hP hD
  refine lv_dup hx hb d_D_init_1496 rfl ?_
  refine lv_bipush (v := (59 : Int32)) hx hb d_D_init_1497 (by decide) ?_
  refine lv_sipush (v := (1862 : Int32)) hx hb d_D_init_1499 (by decide) ?_
  refine va_iast hx hb hK hP hD hS 3 2 rfl rfl (by unfold vp_in; decide) d_D_init_1502 (fun H locs hP hD hS => ?_)
  have hP : va_P D vwCl ([(x0, .inr (6, fs)), (x1, .inl (c1, 91, .inr (.inl f1))), (x2, .inl (c2, 91, .inl f2)), (q, .inl (cq, 91, .inl (upd (tbI cdL 59) (59 : Int32).toNatClampNeg (1862 : Int32))))]) H := hP
  have hD : va_D A ([(x0, .inr (6, fs)), (x1, .inl (c1, 91, .inr (.inl f1))), (x2, .inl (c2, 91, .inl f2)), (q, .inl (cq, 91, .inl (upd (tbI cdL 59) (59 : Int32).toNatClampNeg (1862 : Int32))))]) := hD
  rw [tbI_s (k := 59) rfl rfl] at hP hD
  refine lv_dup hx hb d_D_init_1503 rfl ?_
  refine lv_bipush (v := (60 : Int32)) hx hb d_D_init_1504 (by decide) ?_
  refine lv_bipush (v := (7 : Int32)) hx hb d_D_init_1506 (by decide) ?_
  refine va_iast hx hb hK hP hD hS 3 2 rfl rfl (by unfold vp_in; decide) d_D_init_1508 (fun H locs hP hD hS => ?_)
  have hP : va_P D vwCl ([(x0, .inr (6, fs)), (x1, .inl (c1, 91, .inr (.inl f1))), (x2, .inl (c2, 91, .inl f2)), (q, .inl (cq, 91, .inl (upd (tbI cdL 60) (60 : Int32).toNatClampNeg (7 : Int32))))]) H := hP
  have hD : va_D A ([(x0, .inr (6, fs)), (x1, .inl (c1, 91, .inr (.inl f1))), (x2, .inl (c2, 91, .inl f2)), (q, .inl (cq, 91, .inl (upd (tbI cdL 60) (60 : Int32).toNatClampNeg (7 : Int32))))]) := hD
  rw [tbI_s (k := 60) rfl rfl] at hP hD
  refine lv_dup hx hb d_D_init_1509 rfl ?_
  refine lv_bipush (v := (61 : Int32)) hx hb d_D_init_1510 (by decide) ?_
  refine lv_sipush (v := (1863 : Int32)) hx hb d_D_init_1512 (by decide) ?_
  refine va_iast hx hb hK hP hD hS 3 2 rfl rfl (by unfold vp_in; decide) d_D_init_1515 (fun H locs hP hD hS => ?_)
  have hP : va_P D vwCl ([(x0, .inr (6, fs)), (x1, .inl (c1, 91, .inr (.inl f1))), (x2, .inl (c2, 91, .inl f2)), (q, .inl (cq, 91, .inl (upd (tbI cdL 61) (61 : Int32).toNatClampNeg (1863 : Int32))))]) H := hP
  have hD : va_D A ([(x0, .inr (6, fs)), (x1, .inl (c1, 91, .inr (.inl f1))), (x2, .inl (c2, 91, .inl f2)), (q, .inl (cq, 91, .inl (upd (tbI cdL 61) (61 : Int32).toNatClampNeg (1863 : Int32))))]) := hD
  rw [tbI_s (k := 61) rfl rfl] at hP hD
  refine lv_dup hx hb d_D_init_1516 rfl ?_
  refine lv_bipush (v := (62 : Int32)) hx hb d_D_init_1517 (by decide) ?_
  refine lv_bipush (v := (8 : Int32)) hx hb d_D_init_1519 (by decide) ?_
  refine va_iast hx hb hK hP hD hS 3 2 rfl rfl (by unfold vp_in; decide) d_D_init_1521 (fun H locs hP hD hS => ?_)
  have hP : va_P D vwCl ([(x0, .inr (6, fs)), (x1, .inl (c1, 91, .inr (.inl f1))), (x2, .inl (c2, 91, .inl f2)), (q, .inl (cq, 91, .inl (upd (tbI cdL 62) (62 : Int32).toNatClampNeg (8 : Int32))))]) H := hP
  have hD : va_D A ([(x0, .inr (6, fs)), (x1, .inl (c1, 91, .inr (.inl f1))), (x2, .inl (c2, 91, .inl f2)), (q, .inl (cq, 91, .inl (upd (tbI cdL 62) (62 : Int32).toNatClampNeg (8 : Int32))))]) := hD
  rw [tbI_s (k := 62) rfl rfl] at hP hD
  refine lv_dup hx hb d_D_init_1522 rfl ?_
  refine lv_bipush (v := (63 : Int32)) hx hb d_D_init_1523 (by decide) ?_
  refine lv_sipush (v := (1864 : Int32)) hx hb d_D_init_1525 (by decide) ?_
  refine va_iast hx hb hK hP hD hS 3 2 rfl rfl (by unfold vp_in; decide) d_D_init_1528 (fun H locs hP hD hS => ?_)
  have hP : va_P D vwCl ([(x0, .inr (6, fs)), (x1, .inl (c1, 91, .inr (.inl f1))), (x2, .inl (c2, 91, .inl f2)), (q, .inl (cq, 91, .inl (upd (tbI cdL 63) (63 : Int32).toNatClampNeg (1864 : Int32))))]) H := hP
  have hD : va_D A ([(x0, .inr (6, fs)), (x1, .inl (c1, 91, .inr (.inl f1))), (x2, .inl (c2, 91, .inl f2)), (q, .inl (cq, 91, .inl (upd (tbI cdL 63) (63 : Int32).toNatClampNeg (1864 : Int32))))]) := hD
  rw [tbI_s (k := 63) rfl rfl] at hP hD
  refine lv_dup hx hb d_D_init_1529 rfl ?_
  refine lv_bipush (v := (64 : Int32)) hx hb d_D_init_1530 (by decide) ?_
  refine lv_bipush (v := (9 : Int32)) hx hb d_D_init_1532 (by decide) ?_
  refine va_iast hx hb hK hP hD hS 3 2 rfl rfl (by unfold vp_in; decide) d_D_init_1534 (fun H locs hP hD hS => ?_)
  have hP : va_P D vwCl ([(x0, .inr (6, fs)), (x1, .inl (c1, 91, .inr (.inl f1))), (x2, .inl (c2, 91, .inl f2)), (q, .inl (cq, 91, .inl (upd (tbI cdL 64) (64 : Int32).toNatClampNeg (9 : Int32))))]) H := hP
  have hD : va_D A ([(x0, .inr (6, fs)), (x1, .inl (c1, 91, .inr (.inl f1))), (x2, .inl (c2, 91, .inl f2)), (q, .inl (cq, 91, .inl (upd (tbI cdL 64) (64 : Int32).toNatClampNeg (9 : Int32))))]) := hD
  rw [tbI_s (k := 64) rfl rfl] at hP hD
  exact kk H locs hP hD hS
set_option maxHeartbeats 4000000 in
set_option maxRecDepth 100000 in
theorem ch_D_init_1535 {p : Program} {l : Launch} {e : Env} {R : Room} {s : State} {m : MethodId} {args : Array Value} {below : List Frame} {meth : Method} {c : Code} {H : Heap} {locs : List Loc} {cells slots : Nat} {Q : State → Prop} {ls : Array Slot} {D : va_G} {A : Nat → Prop} {fs : List Value} {x0 : Nat} {x1 : Nat} {c1 : ClassId} {f1 : Nat → Int64} {x2 : Nat} {c2 : ClassId} {f2 : Nat → Int32} {q : Nat} {cq : ClassId} {rest : List Value} (hx : p.tables.exec = Jvm.exec) (hb : c.code = c_D_init) (hown : s.vm.findClass "WindowMachineModel" = some m.cls) (ht : ∀ w9 ∈ zT, w9.before args s = true) (hK : va_K D vwCl [(c1, .long), (c2, .int), (cq, .int)] s) (hP : va_P D vwCl [(x0, .inr (6, fs)), (x1, .inl (c1, 91, .inr (.inl f1))), (x2, .inl (c2, 91, .inl f2)), (q, .inl (cq, 91, .inl (tbI cdL 65)))] H) (hD : va_D A [(x0, .inr (6, fs)), (x1, .inl (c1, 91, .inr (.inl f1))), (x2, .inl (c2, 91, .inl f2)), (q, .inl (cq, 91, .inl (tbI cdL 65)))]) (hS : va_S A s.heap H locs)
    (kk : ∀ (H : Heap) (locs : List Loc), va_P D vwCl [(x0, .inr (6, fs)), (x1, .inl (c1, 91, .inr (.inl f1))), (x2, .inl (c2, 91, .inl f2)), (q, .inl (cq, 91, .inl (tbI cdL 78)))] H → va_D A [(x0, .inr (6, fs)), (x1, .inl (c1, 91, .inr (.inl f1))), (x2, .inl (c2, 91, .inl f2)), (q, .inl (cq, 91, .inl (tbI cdL 78)))] → va_S A s.heap H locs → W p l e R s m args below meth c H locs cells slots Q (F0 m 1620 ls (.ref q :: rest))) : W p l e R s m args below meth c H locs cells slots Q (F0 m 1535 ls (.ref q :: rest)) := by
  refine lv_dup hx hb d_D_init_1535 rfl ?_
  refine lv_bipush (v := (65 : Int32)) hx hb d_D_init_1536 (by decide) ?_
  refine lv_sipush (v := (1865 : Int32)) hx hb d_D_init_1538 (by decide) ?_
  refine va_iast hx hb hK hP hD hS 3 2 rfl rfl (by unfold vp_in; decide) d_D_init_1541 (fun H locs hP hD hS => ?_)
  have hP : va_P D vwCl ([(x0, .inr (6, fs)), (x1, .inl (c1, 91, .inr (.inl f1))), (x2, .inl (c2, 91, .inl f2)), (q, .inl (cq, 91, .inl (upd (tbI cdL 65) (65 : Int32).toNatClampNeg (1865 : Int32))))]) H := hP
  have hD : va_D A ([(x0, .inr (6, fs)), (x1, .inl (c1, 91, .inr (.inl f1))), (x2, .inl (c2, 91, .inl f2)), (q, .inl (cq, 91, .inl (upd (tbI cdL 65) (65 : Int32).toNatClampNeg (1865 : Int32))))]) := hD
  rw [tbI_s (k := 65) rfl rfl] at hP hD
  refine lv_dup hx hb d_D_init_1542 rfl ?_
  refine lv_bipush (v := (66 : Int32)) hx hb d_D_init_1543 (by decide) ?_
  refine lv_bipush (v := (10 : Int32)) hx hb d_D_init_1545 (by decide) ?_
  refine va_iast hx hb hK hP hD hS 3 2 rfl rfl (by unfold vp_in; decide) d_D_init_1547 (fun H locs hP hD hS => ?_)
  have hP : va_P D vwCl ([(x0, .inr (6, fs)), (x1, .inl (c1, 91, .inr (.inl f1))), (x2, .inl (c2, 91, .inl f2)), (q, .inl (cq, 91, .inl (upd (tbI cdL 66) (66 : Int32).toNatClampNeg (10 : Int32))))]) H := hP
  have hD : va_D A ([(x0, .inr (6, fs)), (x1, .inl (c1, 91, .inr (.inl f1))), (x2, .inl (c2, 91, .inl f2)), (q, .inl (cq, 91, .inl (upd (tbI cdL 66) (66 : Int32).toNatClampNeg (10 : Int32))))]) := hD
  rw [tbI_s (k := 66) rfl rfl] at hP hD
  refine lv_dup hx hb d_D_init_1548 rfl ?_
  refine lv_bipush (v := (67 : Int32)) hx hb d_D_init_1549 (by decide) ?_
  refine lv_sipush (v := (1866 : Int32)) hx hb d_D_init_1551 (by decide) ?_
  refine va_iast hx hb hK hP hD hS 3 2 rfl rfl (by unfold vp_in; decide) d_D_init_1554 (fun H locs hP hD hS => ?_)
  have hP : va_P D vwCl ([(x0, .inr (6, fs)), (x1, .inl (c1, 91, .inr (.inl f1))), (x2, .inl (c2, 91, .inl f2)), (q, .inl (cq, 91, .inl (upd (tbI cdL 67) (67 : Int32).toNatClampNeg (1866 : Int32))))]) H := hP
  have hD : va_D A ([(x0, .inr (6, fs)), (x1, .inl (c1, 91, .inr (.inl f1))), (x2, .inl (c2, 91, .inl f2)), (q, .inl (cq, 91, .inl (upd (tbI cdL 67) (67 : Int32).toNatClampNeg (1866 : Int32))))]) := hD
  rw [tbI_s (k := 67) rfl rfl] at hP hD
  refine lv_dup hx hb d_D_init_1555 rfl ?_
  refine lv_bipush (v := (68 : Int32)) hx hb d_D_init_1556 (by decide) ?_
  refine lv_bipush (v := (11 : Int32)) hx hb d_D_init_1558 (by decide) ?_
  refine va_iast hx hb hK hP hD hS 3 2 rfl rfl (by unfold vp_in; decide) d_D_init_1560 (fun H locs hP hD hS => ?_)
  have hP : va_P D vwCl ([(x0, .inr (6, fs)), (x1, .inl (c1, 91, .inr (.inl f1))), (x2, .inl (c2, 91, .inl f2)), (q, .inl (cq, 91, .inl (upd (tbI cdL 68) (68 : Int32).toNatClampNeg (11 : Int32))))]) H := hP
  have hD : va_D A ([(x0, .inr (6, fs)), (x1, .inl (c1, 91, .inr (.inl f1))), (x2, .inl (c2, 91, .inl f2)), (q, .inl (cq, 91, .inl (upd (tbI cdL 68) (68 : Int32).toNatClampNeg (11 : Int32))))]) := hD
  rw [tbI_s (k := 68) rfl rfl] at hP hD
  refine lv_dup hx hb d_D_init_1561 rfl ?_
  refine lv_bipush (v := (69 : Int32)) hx hb d_D_init_1562 (by decide) ?_
  refine lv_sipush (v := (1867 : Int32)) hx hb d_D_init_1564 (by decide) ?_
  refine va_iast hx hb hK hP hD hS 3 2 rfl rfl (by unfold vp_in; decide) d_D_init_1567 (fun H locs hP hD hS => ?_)
  have hP : va_P D vwCl ([(x0, .inr (6, fs)), (x1, .inl (c1, 91, .inr (.inl f1))), (x2, .inl (c2, 91, .inl f2)), (q, .inl (cq, 91, .inl (upd (tbI cdL 69) (69 : Int32).toNatClampNeg (1867 : Int32))))]) H := hP
  have hD : va_D A ([(x0, .inr (6, fs)), (x1, .inl (c1, 91, .inr (.inl f1))), (x2, .inl (c2, 91, .inl f2)), (q, .inl (cq, 91, .inl (upd (tbI cdL 69) (69 : Int32).toNatClampNeg (1867 : Int32))))]) := hD
  rw [tbI_s (k := 69) rfl rfl] at hP hD
  refine lv_dup hx hb d_D_init_1568 rfl ?_
  refine lv_bipush (v := (70 : Int32)) hx hb d_D_init_1569 (by decide) ?_
  refine lv_bipush (v := (12 : Int32)) hx hb d_D_init_1571 (by decide) ?_
  refine va_iast hx hb hK hP hD hS 3 2 rfl rfl (by unfold vp_in; decide) d_D_init_1573 (fun H locs hP hD hS => ?_)
  have hP : va_P D vwCl ([(x0, .inr (6, fs)), (x1, .inl (c1, 91, .inr (.inl f1))), (x2, .inl (c2, 91, .inl f2)), (q, .inl (cq, 91, .inl (upd (tbI cdL 70) (70 : Int32).toNatClampNeg (12 : Int32))))]) H := hP
  have hD : va_D A ([(x0, .inr (6, fs)), (x1, .inl (c1, 91, .inr (.inl f1))), (x2, .inl (c2, 91, .inl f2)), (q, .inl (cq, 91, .inl (upd (tbI cdL 70) (70 : Int32).toNatClampNeg (12 : Int32))))]) := hD
  rw [tbI_s (k := 70) rfl rfl] at hP hD
  refine lv_dup hx hb d_D_init_1574 rfl ?_
  refine lv_bipush (v := (71 : Int32)) hx hb d_D_init_1575 (by decide) ?_
  refine lv_sipush (v := (1868 : Int32)) hx hb d_D_init_1577 (by decide) ?_
  refine va_iast hx hb hK hP hD hS 3 2 rfl rfl (by unfold vp_in; decide) d_D_init_1580 (fun H locs hP hD hS => ?_)
  have hP : va_P D vwCl ([(x0, .inr (6, fs)), (x1, .inl (c1, 91, .inr (.inl f1))), (x2, .inl (c2, 91, .inl f2)), (q, .inl (cq, 91, .inl (upd (tbI cdL 71) (71 : Int32).toNatClampNeg (1868 : Int32))))]) H := hP
  have hD : va_D A ([(x0, .inr (6, fs)), (x1, .inl (c1, 91, .inr (.inl f1))), (x2, .inl (c2, 91, .inl f2)), (q, .inl (cq, 91, .inl (upd (tbI cdL 71) (71 : Int32).toNatClampNeg (1868 : Int32))))]) := hD
  rw [tbI_s (k := 71) rfl rfl] at hP hD
  refine lv_dup hx hb d_D_init_1581 rfl ?_
  refine lv_bipush (v := (72 : Int32)) hx hb d_D_init_1582 (by decide) ?_
  refine lv_bipush (v := (13 : Int32)) hx hb d_D_init_1584 (by decide) ?_
  refine va_iast hx hb hK hP hD hS 3 2 rfl rfl (by unfold vp_in; decide) d_D_init_1586 (fun H locs hP hD hS => ?_)
  have hP : va_P D vwCl ([(x0, .inr (6, fs)), (x1, .inl (c1, 91, .inr (.inl f1))), (x2, .inl (c2, 91, .inl f2)), (q, .inl (cq, 91, .inl (upd (tbI cdL 72) (72 : Int32).toNatClampNeg (13 : Int32))))]) H := hP
  have hD : va_D A ([(x0, .inr (6, fs)), (x1, .inl (c1, 91, .inr (.inl f1))), (x2, .inl (c2, 91, .inl f2)), (q, .inl (cq, 91, .inl (upd (tbI cdL 72) (72 : Int32).toNatClampNeg (13 : Int32))))]) := hD
  rw [tbI_s (k := 72) rfl rfl] at hP hD
  refine lv_dup hx hb d_D_init_1587 rfl ?_
  refine lv_bipush (v := (73 : Int32)) hx hb d_D_init_1588 (by decide) ?_
  refine lv_sipush (v := (1869 : Int32)) hx hb d_D_init_1590 (by decide) ?_
  refine va_iast hx hb hK hP hD hS 3 2 rfl rfl (by unfold vp_in; decide) d_D_init_1593 (fun H locs hP hD hS => ?_)
  have hP : va_P D vwCl ([(x0, .inr (6, fs)), (x1, .inl (c1, 91, .inr (.inl f1))), (x2, .inl (c2, 91, .inl f2)), (q, .inl (cq, 91, .inl (upd (tbI cdL 73) (73 : Int32).toNatClampNeg (1869 : Int32))))]) H := hP
  have hD : va_D A ([(x0, .inr (6, fs)), (x1, .inl (c1, 91, .inr (.inl f1))), (x2, .inl (c2, 91, .inl f2)), (q, .inl (cq, 91, .inl (upd (tbI cdL 73) (73 : Int32).toNatClampNeg (1869 : Int32))))]) := hD
  rw [tbI_s (k := 73) rfl rfl] at hP hD
  refine lv_dup hx hb d_D_init_1594 rfl ?_
  refine lv_bipush (v := (74 : Int32)) hx hb d_D_init_1595 (by decide) ?_
  refine lv_bipush (v := (14 : Int32)) hx hb d_D_init_1597 (by decide) ?_
  refine va_iast hx hb hK hP hD hS 3 2 rfl rfl (by unfold vp_in; decide) d_D_init_1599 (fun H locs hP hD hS => ?_)
  have hP : va_P D vwCl ([(x0, .inr (6, fs)), (x1, .inl (c1, 91, .inr (.inl f1))), (x2, .inl (c2, 91, .inl f2)), (q, .inl (cq, 91, .inl (upd (tbI cdL 74) (74 : Int32).toNatClampNeg (14 : Int32))))]) H := hP
  have hD : va_D A ([(x0, .inr (6, fs)), (x1, .inl (c1, 91, .inr (.inl f1))), (x2, .inl (c2, 91, .inl f2)), (q, .inl (cq, 91, .inl (upd (tbI cdL 74) (74 : Int32).toNatClampNeg (14 : Int32))))]) := hD
  rw [tbI_s (k := 74) rfl rfl] at hP hD
  refine lv_dup hx hb d_D_init_1600 rfl ?_
  refine lv_bipush (v := (75 : Int32)) hx hb d_D_init_1601 (by decide) ?_
  refine lv_sipush (v := (1870 : Int32)) hx hb d_D_init_1603 (by decide) ?_
  refine va_iast hx hb hK hP hD hS 3 2 rfl rfl (by unfold vp_in; decide) d_D_init_1606 (fun H locs hP hD hS => ?_)
  have hP : va_P D vwCl ([(x0, .inr (6, fs)), (x1, .inl (c1, 91, .inr (.inl f1))), (x2, .inl (c2, 91, .inl f2)), (q, .inl (cq, 91, .inl (upd (tbI cdL 75) (75 : Int32).toNatClampNeg (1870 : Int32))))]) H := hP
  have hD : va_D A ([(x0, .inr (6, fs)), (x1, .inl (c1, 91, .inr (.inl f1))), (x2, .inl (c2, 91, .inl f2)), (q, .inl (cq, 91, .inl (upd (tbI cdL 75) (75 : Int32).toNatClampNeg (1870 : Int32))))]) := hD
  rw [tbI_s (k := 75) rfl rfl] at hP hD
  refine lv_dup hx hb d_D_init_1607 rfl ?_
  refine lv_bipush (v := (76 : Int32)) hx hb d_D_init_1608 (by decide) ?_
  refine lv_bipush (v := (15 : Int32)) hx hb d_D_init_1610 (by decide) ?_
  refine va_iast hx hb hK hP hD hS 3 2 rfl rfl (by unfold vp_in; decide) d_D_init_1612 (fun H locs hP hD hS => ?_)
  have hP : va_P D vwCl ([(x0, .inr (6, fs)), (x1, .inl (c1, 91, .inr (.inl f1))), (x2, .inl (c2, 91, .inl f2)), (q, .inl (cq, 91, .inl (upd (tbI cdL 76) (76 : Int32).toNatClampNeg (15 : Int32))))]) H := hP
  have hD : va_D A ([(x0, .inr (6, fs)), (x1, .inl (c1, 91, .inr (.inl f1))), (x2, .inl (c2, 91, .inl f2)), (q, .inl (cq, 91, .inl (upd (tbI cdL 76) (76 : Int32).toNatClampNeg (15 : Int32))))]) := hD
  rw [tbI_s (k := 76) rfl rfl] at hP hD
  refine lv_dup hx hb d_D_init_1613 rfl ?_
  refine lv_bipush (v := (77 : Int32)) hx hb d_D_init_1614 (by decide) ?_
  refine lv_sipush (v := (1871 : Int32)) hx hb d_D_init_1616 (by decide) ?_
  refine va_iast hx hb hK hP hD hS 3 2 rfl rfl (by unfold vp_in; decide) d_D_init_1619 (fun H locs hP hD hS => ?_)
  have hP : va_P D vwCl ([(x0, .inr (6, fs)), (x1, .inl (c1, 91, .inr (.inl f1))), (x2, .inl (c2, 91, .inl f2)), (q, .inl (cq, 91, .inl (upd (tbI cdL 77) (77 : Int32).toNatClampNeg (1871 : Int32))))]) H := hP
  have hD : va_D A ([(x0, .inr (6, fs)), (x1, .inl (c1, 91, .inr (.inl f1))), (x2, .inl (c2, 91, .inl f2)), (q, .inl (cq, 91, .inl (upd (tbI cdL 77) (77 : Int32).toNatClampNeg (1871 : Int32))))]) := hD
  rw [tbI_s (k := 77) rfl rfl] at hP hD
  exact kk H locs hP hD hS
set_option maxHeartbeats 4000000 in
set_option maxRecDepth 100000 in
theorem ch_D_init_1620 {p : Program} {l : Launch} {e : Env} {R : Room} {s : State} {m : MethodId} {args : Array Value} {below : List Frame} {meth : Method} {c : Code} {H : Heap} {locs : List Loc} {cells slots : Nat} {Q : State → Prop} {ls : Array Slot} {D : va_G} {A : Nat → Prop} {fs : List Value} {x0 : Nat} {x1 : Nat} {c1 : ClassId} {f1 : Nat → Int64} {x2 : Nat} {c2 : ClassId} {f2 : Nat → Int32} {q : Nat} {cq : ClassId} {rest : List Value} (hx : p.tables.exec = Jvm.exec) (hb : c.code = c_D_init) (hown : s.vm.findClass "WindowMachineModel" = some m.cls) (ht : ∀ w9 ∈ zT, w9.before args s = true) (hK : va_K D vwCl [(c1, .long), (c2, .int), (cq, .int)] s) (hP : va_P D vwCl [(x0, .inr (6, fs)), (x1, .inl (c1, 91, .inr (.inl f1))), (x2, .inl (c2, 91, .inl f2)), (q, .inl (cq, 91, .inl (tbI cdL 78)))] H) (hD : va_D A [(x0, .inr (6, fs)), (x1, .inl (c1, 91, .inr (.inl f1))), (x2, .inl (c2, 91, .inl f2)), (q, .inl (cq, 91, .inl (tbI cdL 78)))]) (hS : va_S A s.heap H locs)
    (kk : ∀ (H : Heap) (locs : List Loc), va_P D vwCl [(x0, .inr (6, fs)), (x1, .inl (c1, 91, .inr (.inl f1))), (x2, .inl (c2, 91, .inl f2)), (q, .inl (cq, 91, .inl (tbI cdL 91)))] H → va_D A [(x0, .inr (6, fs)), (x1, .inl (c1, 91, .inr (.inl f1))), (x2, .inl (c2, 91, .inl f2)), (q, .inl (cq, 91, .inl (tbI cdL 91)))] → va_S A s.heap H locs → W p l e R s m args below meth c H locs cells slots Q (F0 m 1709 ls (.ref q :: rest))) : W p l e R s m args below meth c H locs cells slots Q (F0 m 1620 ls (.ref q :: rest)) := by
  refine lv_dup hx hb d_D_init_1620 rfl ?_
  refine lv_bipush (v := (78 : Int32)) hx hb d_D_init_1621 (by decide) ?_
  refine lv_sipush (v := (192 : Int32)) hx hb d_D_init_1623 (by decide) ?_
  refine va_iast hx hb hK hP hD hS 3 2 rfl rfl (by unfold vp_in; decide) d_D_init_1626 (fun H locs hP hD hS => ?_)
  have hP : va_P D vwCl ([(x0, .inr (6, fs)), (x1, .inl (c1, 91, .inr (.inl f1))), (x2, .inl (c2, 91, .inl f2)), (q, .inl (cq, 91, .inl (upd (tbI cdL 78) (78 : Int32).toNatClampNeg (192 : Int32))))]) H := hP
  have hD : va_D A ([(x0, .inr (6, fs)), (x1, .inl (c1, 91, .inr (.inl f1))), (x2, .inl (c2, 91, .inl f2)), (q, .inl (cq, 91, .inl (upd (tbI cdL 78) (78 : Int32).toNatClampNeg (192 : Int32))))]) := hD
  rw [tbI_s (k := 78) rfl rfl] at hP hD
  refine lv_dup hx hb d_D_init_1627 rfl ?_
  refine lv_bipush (v := (79 : Int32)) hx hb d_D_init_1628 (by decide) ?_
  refine lv_sipush (v := (193 : Int32)) hx hb d_D_init_1630 (by decide) ?_
  refine va_iast hx hb hK hP hD hS 3 2 rfl rfl (by unfold vp_in; decide) d_D_init_1633 (fun H locs hP hD hS => ?_)
  have hP : va_P D vwCl ([(x0, .inr (6, fs)), (x1, .inl (c1, 91, .inr (.inl f1))), (x2, .inl (c2, 91, .inl f2)), (q, .inl (cq, 91, .inl (upd (tbI cdL 79) (79 : Int32).toNatClampNeg (193 : Int32))))]) H := hP
  have hD : va_D A ([(x0, .inr (6, fs)), (x1, .inl (c1, 91, .inr (.inl f1))), (x2, .inl (c2, 91, .inl f2)), (q, .inl (cq, 91, .inl (upd (tbI cdL 79) (79 : Int32).toNatClampNeg (193 : Int32))))]) := hD
  rw [tbI_s (k := 79) rfl rfl] at hP hD
  refine lv_dup hx hb d_D_init_1634 rfl ?_
  refine lv_bipush (v := (80 : Int32)) hx hb d_D_init_1635 (by decide) ?_
  refine lv_sipush (v := (194 : Int32)) hx hb d_D_init_1637 (by decide) ?_
  refine va_iast hx hb hK hP hD hS 3 2 rfl rfl (by unfold vp_in; decide) d_D_init_1640 (fun H locs hP hD hS => ?_)
  have hP : va_P D vwCl ([(x0, .inr (6, fs)), (x1, .inl (c1, 91, .inr (.inl f1))), (x2, .inl (c2, 91, .inl f2)), (q, .inl (cq, 91, .inl (upd (tbI cdL 80) (80 : Int32).toNatClampNeg (194 : Int32))))]) H := hP
  have hD : va_D A ([(x0, .inr (6, fs)), (x1, .inl (c1, 91, .inr (.inl f1))), (x2, .inl (c2, 91, .inl f2)), (q, .inl (cq, 91, .inl (upd (tbI cdL 80) (80 : Int32).toNatClampNeg (194 : Int32))))]) := hD
  rw [tbI_s (k := 80) rfl rfl] at hP hD
  refine lv_dup hx hb d_D_init_1641 rfl ?_
  refine lv_bipush (v := (81 : Int32)) hx hb d_D_init_1642 (by decide) ?_
  refine lv_sipush (v := (195 : Int32)) hx hb d_D_init_1644 (by decide) ?_
  refine va_iast hx hb hK hP hD hS 3 2 rfl rfl (by unfold vp_in; decide) d_D_init_1647 (fun H locs hP hD hS => ?_)
  have hP : va_P D vwCl ([(x0, .inr (6, fs)), (x1, .inl (c1, 91, .inr (.inl f1))), (x2, .inl (c2, 91, .inl f2)), (q, .inl (cq, 91, .inl (upd (tbI cdL 81) (81 : Int32).toNatClampNeg (195 : Int32))))]) H := hP
  have hD : va_D A ([(x0, .inr (6, fs)), (x1, .inl (c1, 91, .inr (.inl f1))), (x2, .inl (c2, 91, .inl f2)), (q, .inl (cq, 91, .inl (upd (tbI cdL 81) (81 : Int32).toNatClampNeg (195 : Int32))))]) := hD
  rw [tbI_s (k := 81) rfl rfl] at hP hD
  refine lv_dup hx hb d_D_init_1648 rfl ?_
  refine lv_bipush (v := (82 : Int32)) hx hb d_D_init_1649 (by decide) ?_
  refine lv_sipush (v := (201 : Int32)) hx hb d_D_init_1651 (by decide) ?_
  refine va_iast hx hb hK hP hD hS 3 2 rfl rfl (by unfold vp_in; decide) d_D_init_1654 (fun H locs hP hD hS => ?_)
  have hP : va_P D vwCl ([(x0, .inr (6, fs)), (x1, .inl (c1, 91, .inr (.inl f1))), (x2, .inl (c2, 91, .inl f2)), (q, .inl (cq, 91, .inl (upd (tbI cdL 82) (82 : Int32).toNatClampNeg (201 : Int32))))]) H := hP
  have hD : va_D A ([(x0, .inr (6, fs)), (x1, .inl (c1, 91, .inr (.inl f1))), (x2, .inl (c2, 91, .inl f2)), (q, .inl (cq, 91, .inl (upd (tbI cdL 82) (82 : Int32).toNatClampNeg (201 : Int32))))]) := hD
  rw [tbI_s (k := 82) rfl rfl] at hP hD
  refine lv_dup hx hb d_D_init_1655 rfl ?_
  refine lv_bipush (v := (83 : Int32)) hx hb d_D_init_1656 (by decide) ?_
  refine lv_sipush (v := (202 : Int32)) hx hb d_D_init_1658 (by decide) ?_
  refine va_iast hx hb hK hP hD hS 3 2 rfl rfl (by unfold vp_in; decide) d_D_init_1661 (fun H locs hP hD hS => ?_)
  have hP : va_P D vwCl ([(x0, .inr (6, fs)), (x1, .inl (c1, 91, .inr (.inl f1))), (x2, .inl (c2, 91, .inl f2)), (q, .inl (cq, 91, .inl (upd (tbI cdL 83) (83 : Int32).toNatClampNeg (202 : Int32))))]) H := hP
  have hD : va_D A ([(x0, .inr (6, fs)), (x1, .inl (c1, 91, .inr (.inl f1))), (x2, .inl (c2, 91, .inl f2)), (q, .inl (cq, 91, .inl (upd (tbI cdL 83) (83 : Int32).toNatClampNeg (202 : Int32))))]) := hD
  rw [tbI_s (k := 83) rfl rfl] at hP hD
  refine lv_dup hx hb d_D_init_1662 rfl ?_
  refine lv_bipush (v := (84 : Int32)) hx hb d_D_init_1663 (by decide) ?_
  refine lv_sipush (v := (205 : Int32)) hx hb d_D_init_1665 (by decide) ?_
  refine va_iast hx hb hK hP hD hS 3 2 rfl rfl (by unfold vp_in; decide) d_D_init_1668 (fun H locs hP hD hS => ?_)
  have hP : va_P D vwCl ([(x0, .inr (6, fs)), (x1, .inl (c1, 91, .inr (.inl f1))), (x2, .inl (c2, 91, .inl f2)), (q, .inl (cq, 91, .inl (upd (tbI cdL 84) (84 : Int32).toNatClampNeg (205 : Int32))))]) H := hP
  have hD : va_D A ([(x0, .inr (6, fs)), (x1, .inl (c1, 91, .inr (.inl f1))), (x2, .inl (c2, 91, .inl f2)), (q, .inl (cq, 91, .inl (upd (tbI cdL 84) (84 : Int32).toNatClampNeg (205 : Int32))))]) := hD
  rw [tbI_s (k := 84) rfl rfl] at hP hD
  refine lv_dup hx hb d_D_init_1669 rfl ?_
  refine lv_bipush (v := (85 : Int32)) hx hb d_D_init_1670 (by decide) ?_
  refine lv_sipush (v := (207 : Int32)) hx hb d_D_init_1672 (by decide) ?_
  refine va_iast hx hb hK hP hD hS 3 2 rfl rfl (by unfold vp_in; decide) d_D_init_1675 (fun H locs hP hD hS => ?_)
  have hP : va_P D vwCl ([(x0, .inr (6, fs)), (x1, .inl (c1, 91, .inr (.inl f1))), (x2, .inl (c2, 91, .inl f2)), (q, .inl (cq, 91, .inl (upd (tbI cdL 85) (85 : Int32).toNatClampNeg (207 : Int32))))]) H := hP
  have hD : va_D A ([(x0, .inr (6, fs)), (x1, .inl (c1, 91, .inr (.inl f1))), (x2, .inl (c2, 91, .inl f2)), (q, .inl (cq, 91, .inl (upd (tbI cdL 85) (85 : Int32).toNatClampNeg (207 : Int32))))]) := hD
  rw [tbI_s (k := 85) rfl rfl] at hP hD
  refine lv_dup hx hb d_D_init_1676 rfl ?_
  refine lv_bipush (v := (86 : Int32)) hx hb d_D_init_1677 (by decide) ?_
  refine lv_sipush (v := (196 : Int32)) hx hb d_D_init_1679 (by decide) ?_
  refine va_iast hx hb hK hP hD hS 3 2 rfl rfl (by unfold vp_in; decide) d_D_init_1682 (fun H locs hP hD hS => ?_)
  have hP : va_P D vwCl ([(x0, .inr (6, fs)), (x1, .inl (c1, 91, .inr (.inl f1))), (x2, .inl (c2, 91, .inl f2)), (q, .inl (cq, 91, .inl (upd (tbI cdL 86) (86 : Int32).toNatClampNeg (196 : Int32))))]) H := hP
  have hD : va_D A ([(x0, .inr (6, fs)), (x1, .inl (c1, 91, .inr (.inl f1))), (x2, .inl (c2, 91, .inl f2)), (q, .inl (cq, 91, .inl (upd (tbI cdL 86) (86 : Int32).toNatClampNeg (196 : Int32))))]) := hD
  rw [tbI_s (k := 86) rfl rfl] at hP hD
  refine lv_dup hx hb d_D_init_1683 rfl ?_
  refine lv_bipush (v := (87 : Int32)) hx hb d_D_init_1684 (by decide) ?_
  refine lv_sipush (v := (197 : Int32)) hx hb d_D_init_1686 (by decide) ?_
  refine va_iast hx hb hK hP hD hS 3 2 rfl rfl (by unfold vp_in; decide) d_D_init_1689 (fun H locs hP hD hS => ?_)
  have hP : va_P D vwCl ([(x0, .inr (6, fs)), (x1, .inl (c1, 91, .inr (.inl f1))), (x2, .inl (c2, 91, .inl f2)), (q, .inl (cq, 91, .inl (upd (tbI cdL 87) (87 : Int32).toNatClampNeg (197 : Int32))))]) H := hP
  have hD : va_D A ([(x0, .inr (6, fs)), (x1, .inl (c1, 91, .inr (.inl f1))), (x2, .inl (c2, 91, .inl f2)), (q, .inl (cq, 91, .inl (upd (tbI cdL 87) (87 : Int32).toNatClampNeg (197 : Int32))))]) := hD
  rw [tbI_s (k := 87) rfl rfl] at hP hD
  refine lv_dup hx hb d_D_init_1690 rfl ?_
  refine lv_bipush (v := (88 : Int32)) hx hb d_D_init_1691 (by decide) ?_
  refine lv_sipush (v := (198 : Int32)) hx hb d_D_init_1693 (by decide) ?_
  refine va_iast hx hb hK hP hD hS 3 2 rfl rfl (by unfold vp_in; decide) d_D_init_1696 (fun H locs hP hD hS => ?_)
  have hP : va_P D vwCl ([(x0, .inr (6, fs)), (x1, .inl (c1, 91, .inr (.inl f1))), (x2, .inl (c2, 91, .inl f2)), (q, .inl (cq, 91, .inl (upd (tbI cdL 88) (88 : Int32).toNatClampNeg (198 : Int32))))]) H := hP
  have hD : va_D A ([(x0, .inr (6, fs)), (x1, .inl (c1, 91, .inr (.inl f1))), (x2, .inl (c2, 91, .inl f2)), (q, .inl (cq, 91, .inl (upd (tbI cdL 88) (88 : Int32).toNatClampNeg (198 : Int32))))]) := hD
  rw [tbI_s (k := 88) rfl rfl] at hP hD
  refine lv_dup hx hb d_D_init_1697 rfl ?_
  refine lv_bipush (v := (89 : Int32)) hx hb d_D_init_1698 (by decide) ?_
  refine lv_sipush (v := (199 : Int32)) hx hb d_D_init_1700 (by decide) ?_
  refine va_iast hx hb hK hP hD hS 3 2 rfl rfl (by unfold vp_in; decide) d_D_init_1703 (fun H locs hP hD hS => ?_)
  have hP : va_P D vwCl ([(x0, .inr (6, fs)), (x1, .inl (c1, 91, .inr (.inl f1))), (x2, .inl (c2, 91, .inl f2)), (q, .inl (cq, 91, .inl (upd (tbI cdL 89) (89 : Int32).toNatClampNeg (199 : Int32))))]) H := hP
  have hD : va_D A ([(x0, .inr (6, fs)), (x1, .inl (c1, 91, .inr (.inl f1))), (x2, .inl (c2, 91, .inl f2)), (q, .inl (cq, 91, .inl (upd (tbI cdL 89) (89 : Int32).toNatClampNeg (199 : Int32))))]) := hD
  rw [tbI_s (k := 89) rfl rfl] at hP hD
  refine lv_dup hx hb d_D_init_1704 rfl ?_
  refine lv_bipush (v := (90 : Int32)) hx hb d_D_init_1705 (by decide) ?_
  refine lv_iconst (v := (0 : Int32)) hx hb d_D_init_1707 (by decide) ?_
  refine va_iast hx hb hK hP hD hS 3 2 rfl rfl (by unfold vp_in; decide) d_D_init_1708 (fun H locs hP hD hS => ?_)
  have hP : va_P D vwCl ([(x0, .inr (6, fs)), (x1, .inl (c1, 91, .inr (.inl f1))), (x2, .inl (c2, 91, .inl f2)), (q, .inl (cq, 91, .inl (upd (tbI cdL 90) (90 : Int32).toNatClampNeg (0 : Int32))))]) H := hP
  have hD : va_D A ([(x0, .inr (6, fs)), (x1, .inl (c1, 91, .inr (.inl f1))), (x2, .inl (c2, 91, .inl f2)), (q, .inl (cq, 91, .inl (upd (tbI cdL 90) (90 : Int32).toNatClampNeg (0 : Int32))))]) := hD
  rw [tbI_s (k := 90) rfl rfl] at hP hD
  exact kk H locs hP hD hS
set_option maxHeartbeats 40000000 in
set_option maxRecDepth 100000 in
theorem mt_D_init (l : Launch) (D : va_G)  (a0 : Nat)  (sz : Nat) : Met l y_D_init w_D_init ({ frames := 1, cells := 8, slots := 1409, locals := 22 }) (va_Pc [.ref a0] (zw_pre D vwCl [] sz [(a0, .inr (6, [.null, .null, .null, .int 0, .int 0, .int 0, .int 0, .null, .null, .null, .null, .null, .int 0, .int 0, .int 0, .int 0, .int 0, .int 0, .int 0, .int 0, .int 0, .int 0, .int 0, .int 0, .int 0, .int 0, .int 0, .int 0, .int 0, .int 0, .int 0]))] (fun _ => True))) (va_Qv (fun (u : (Nat → Nat) × (Nat → ClassId)) => u.1 20 = a0) (fun (u : (Nat → Nat) × (Nat → ClassId)) t => zn_at D vwCl (va_A [(a0, .inr (6, [.null, .null, .null, .int 0, .int 0, .int 0, .int 0, .null, .null, .null, .null, .null, .int 0, .int 0, .int 0, .int 0, .int 0, .int 0, .int 0, .int 0, .int 0, .int 0, .int 0, .int 0, .int 0, .int 0, .int 0, .int 0, .int 0, .int 0, .int 0]))] sz) ((fun (u : (Nat → Nat) × (Nat → ClassId)) => wD u.1 u.2 (m_reset stD9 (0 : Int32))) u) ((fun (u : (Nat → Nat) × (Nat → ClassId)) => [(u.2 21, .long), (u.2 22, .int), (u.2 23, .int), (u.2 24, .int), (u.2 25, .int), (u.2 26, .int), (u.2 27, .int), (u.2 28, .int)]) u) t) (va_A [(a0, .inr (6, [.null, .null, .null, .int 0, .int 0, .int 0, .int 0, .null, .null, .null, .null, .null, .int 0, .int 0, .int 0, .int 0, .int 0, .int 0, .int 0, .int 0, .int 0, .int 0, .int 0, .int 0, .int 0, .int 0, .int 0, .int 0, .int 0, .int 0, .int 0]))] sz)) 8 1409 (va_A [(a0, .inr (6, [.null, .null, .null, .int 0, .int 0, .int 0, .int 0, .null, .null, .null, .null, .null, .int 0, .int 0, .int 0, .int 0, .int 0, .int 0, .int 0, .int 0, .int 0, .int 0, .int 0, .int 0, .int 0, .int 0, .int 0, .int 0, .int 0, .int 0, .int 0]))] sz) := by
  refine zmI (Qf := fun A => va_Qv (fun (u : (Nat → Nat) × (Nat → ClassId)) => u.1 20 = a0) (fun (u : (Nat → Nat) × (Nat → ClassId)) t => zn_at D vwCl A ((fun (u : (Nat → Nat) × (Nat → ClassId)) => wD u.1 u.2 (m_reset stD9 (0 : Int32))) u) ((fun (u : (Nat → Nat) × (Nat → ClassId)) => [(u.2 21, .long), (u.2 22, .int), (u.2 23, .int), (u.2 24, .int), (u.2 25, .int), (u.2 26, .int), (u.2 27, .int), (u.2 28, .int)]) u) t) A) (Zf := fun _ _ => True) (cc := c_D_init) (nL := 1) (ret := none) (by decide) rfl rfl (Nat.le_of_ble_eq_true rfl) ?_
  intro p e s m below meth c9 A H locs ls hx hb hml hown hts hr hlocks hin hA hK hP hD hS hZ hl
  have hl : lv_has ls 1 [(0, .ref a0)] := hl
  have ht : ∀ w9 ∈ zT, w9.before _ s = true := fun w9 h9 => hts w9 (List.mem_cons_of_mem _ h9)
  refine lv_aload_n hx hb d_D_init_0 rfl (lv_at hl 0 rfl) ?_
  refine W.objInit hx hb hown (ht _ zw_758) (ht _ zw_25) (ht _ zw_26) rfl (by rw [hml]; exact hl.1) rfl d_D_init_1 (Nat.le_of_ble_eq_true rfl) (Nat.le_of_ble_eq_true rfl) ?_
  refine W.eq (g2 := F0 m 4 ls []) rfl ?_
  refine lv_aload_n hx hb d_D_init_4 rfl (lv_at hl 0 rfl) ?_
  refine lv_bipush (v := (91 : Int32)) hx hb d_D_init_5 (by decide) ?_
  refine va_newa (D := D) hx hb (ht _ zw_948) (ty := .long) rfl hK hP hD hS hA (N' := 91) (a0 := (91, .inr (.inl (fun _ => (0 : Int64))))) (fun _ => rfl) (by decide) rfl (by decide) (Nat.le_of_ble_eq_true rfl) (Nat.le_of_ble_eq_true rfl) d_D_init_7 (fun q_1 c_2 H hK hP hD hS => ?_)
  have hP : va_P D vwCl [(a0, .inr (6, [.null, .null, .null, .int 0, .int 0, .int 0, .int 0, .null, .null, .null, .null, .null, .int 0, .int 0, .int 0, .int 0, .int 0, .int 0, .int 0, .int 0, .int 0, .int 0, .int 0, .int 0, .int 0, .int 0, .int 0, .int 0, .int 0, .int 0, .int 0])), (q_1, .inl (c_2, 91, .inr (.inl (fun _ => (0 : Int64)))))] H := hP
  have hD : va_D A [(a0, .inr (6, [.null, .null, .null, .int 0, .int 0, .int 0, .int 0, .null, .null, .null, .null, .null, .int 0, .int 0, .int 0, .int 0, .int 0, .int 0, .int 0, .int 0, .int 0, .int 0, .int 0, .int 0, .int 0, .int 0, .int 0, .int 0, .int 0, .int 0, .int 0])), (q_1, .inl (c_2, 91, .inr (.inl (fun _ => (0 : Int64)))))] := hD
  have hK : va_K D vwCl [(c_2, .long)] s := hK
  rw [tbL_0 nmL] at hP hD
  have hP : va_P D vwCl [(a0, .inr (6, [.null, .null, .null, .int 0, .int 0, .int 0, .int 0, .null, .null, .null, .null, .null, .int 0, .int 0, .int 0, .int 0, .int 0, .int 0, .int 0, .int 0, .int 0, .int 0, .int 0, .int 0, .int 0, .int 0, .int 0, .int 0, .int 0, .int 0, .int 0])), (q_1, .inl (c_2, 91, .inr (.inl (tbL nmL 0))))] H := hP
  have hD : va_D A [(a0, .inr (6, [.null, .null, .null, .int 0, .int 0, .int 0, .int 0, .null, .null, .null, .null, .null, .int 0, .int 0, .int 0, .int 0, .int 0, .int 0, .int 0, .int 0, .int 0, .int 0, .int 0, .int 0, .int 0, .int 0, .int 0, .int 0, .int 0, .int 0, .int 0])), (q_1, .inl (c_2, 91, .inr (.inl (tbL nmL 0))))] := hD
  refine ch_D_init_9 hx hb hown ht hK hP hD hS (fun H locs hP hD hS => ?_)
  have hP : va_P D vwCl [(a0, .inr (6, [.null, .null, .null, .int 0, .int 0, .int 0, .int 0, .null, .null, .null, .null, .null, .int 0, .int 0, .int 0, .int 0, .int 0, .int 0, .int 0, .int 0, .int 0, .int 0, .int 0, .int 0, .int 0, .int 0, .int 0, .int 0, .int 0, .int 0, .int 0])), (q_1, .inl (c_2, 91, .inr (.inl (tbL nmL 13))))] H := hP
  have hD : va_D A [(a0, .inr (6, [.null, .null, .null, .int 0, .int 0, .int 0, .int 0, .null, .null, .null, .null, .null, .int 0, .int 0, .int 0, .int 0, .int 0, .int 0, .int 0, .int 0, .int 0, .int 0, .int 0, .int 0, .int 0, .int 0, .int 0, .int 0, .int 0, .int 0, .int 0])), (q_1, .inl (c_2, 91, .inr (.inl (tbL nmL 13))))] := hD
  refine ch_D_init_94 hx hb hown ht hK hP hD hS (fun H locs hP hD hS => ?_)
  have hP : va_P D vwCl [(a0, .inr (6, [.null, .null, .null, .int 0, .int 0, .int 0, .int 0, .null, .null, .null, .null, .null, .int 0, .int 0, .int 0, .int 0, .int 0, .int 0, .int 0, .int 0, .int 0, .int 0, .int 0, .int 0, .int 0, .int 0, .int 0, .int 0, .int 0, .int 0, .int 0])), (q_1, .inl (c_2, 91, .inr (.inl (tbL nmL 26))))] H := hP
  have hD : va_D A [(a0, .inr (6, [.null, .null, .null, .int 0, .int 0, .int 0, .int 0, .null, .null, .null, .null, .null, .int 0, .int 0, .int 0, .int 0, .int 0, .int 0, .int 0, .int 0, .int 0, .int 0, .int 0, .int 0, .int 0, .int 0, .int 0, .int 0, .int 0, .int 0, .int 0])), (q_1, .inl (c_2, 91, .inr (.inl (tbL nmL 26))))] := hD
  refine ch_D_init_185 hx hb hown ht hK hP hD hS (fun H locs hP hD hS => ?_)
  have hP : va_P D vwCl [(a0, .inr (6, [.null, .null, .null, .int 0, .int 0, .int 0, .int 0, .null, .null, .null, .null, .null, .int 0, .int 0, .int 0, .int 0, .int 0, .int 0, .int 0, .int 0, .int 0, .int 0, .int 0, .int 0, .int 0, .int 0, .int 0, .int 0, .int 0, .int 0, .int 0])), (q_1, .inl (c_2, 91, .inr (.inl (tbL nmL 39))))] H := hP
  have hD : va_D A [(a0, .inr (6, [.null, .null, .null, .int 0, .int 0, .int 0, .int 0, .null, .null, .null, .null, .null, .int 0, .int 0, .int 0, .int 0, .int 0, .int 0, .int 0, .int 0, .int 0, .int 0, .int 0, .int 0, .int 0, .int 0, .int 0, .int 0, .int 0, .int 0, .int 0])), (q_1, .inl (c_2, 91, .inr (.inl (tbL nmL 39))))] := hD
  refine ch_D_init_276 hx hb hown ht hK hP hD hS (fun H locs hP hD hS => ?_)
  have hP : va_P D vwCl [(a0, .inr (6, [.null, .null, .null, .int 0, .int 0, .int 0, .int 0, .null, .null, .null, .null, .null, .int 0, .int 0, .int 0, .int 0, .int 0, .int 0, .int 0, .int 0, .int 0, .int 0, .int 0, .int 0, .int 0, .int 0, .int 0, .int 0, .int 0, .int 0, .int 0])), (q_1, .inl (c_2, 91, .inr (.inl (tbL nmL 52))))] H := hP
  have hD : va_D A [(a0, .inr (6, [.null, .null, .null, .int 0, .int 0, .int 0, .int 0, .null, .null, .null, .null, .null, .int 0, .int 0, .int 0, .int 0, .int 0, .int 0, .int 0, .int 0, .int 0, .int 0, .int 0, .int 0, .int 0, .int 0, .int 0, .int 0, .int 0, .int 0, .int 0])), (q_1, .inl (c_2, 91, .inr (.inl (tbL nmL 52))))] := hD
  refine ch_D_init_367 hx hb hown ht hK hP hD hS (fun H locs hP hD hS => ?_)
  have hP : va_P D vwCl [(a0, .inr (6, [.null, .null, .null, .int 0, .int 0, .int 0, .int 0, .null, .null, .null, .null, .null, .int 0, .int 0, .int 0, .int 0, .int 0, .int 0, .int 0, .int 0, .int 0, .int 0, .int 0, .int 0, .int 0, .int 0, .int 0, .int 0, .int 0, .int 0, .int 0])), (q_1, .inl (c_2, 91, .inr (.inl (tbL nmL 65))))] H := hP
  have hD : va_D A [(a0, .inr (6, [.null, .null, .null, .int 0, .int 0, .int 0, .int 0, .null, .null, .null, .null, .null, .int 0, .int 0, .int 0, .int 0, .int 0, .int 0, .int 0, .int 0, .int 0, .int 0, .int 0, .int 0, .int 0, .int 0, .int 0, .int 0, .int 0, .int 0, .int 0])), (q_1, .inl (c_2, 91, .inr (.inl (tbL nmL 65))))] := hD
  refine ch_D_init_458 hx hb hown ht hK hP hD hS (fun H locs hP hD hS => ?_)
  have hP : va_P D vwCl [(a0, .inr (6, [.null, .null, .null, .int 0, .int 0, .int 0, .int 0, .null, .null, .null, .null, .null, .int 0, .int 0, .int 0, .int 0, .int 0, .int 0, .int 0, .int 0, .int 0, .int 0, .int 0, .int 0, .int 0, .int 0, .int 0, .int 0, .int 0, .int 0, .int 0])), (q_1, .inl (c_2, 91, .inr (.inl (tbL nmL 78))))] H := hP
  have hD : va_D A [(a0, .inr (6, [.null, .null, .null, .int 0, .int 0, .int 0, .int 0, .null, .null, .null, .null, .null, .int 0, .int 0, .int 0, .int 0, .int 0, .int 0, .int 0, .int 0, .int 0, .int 0, .int 0, .int 0, .int 0, .int 0, .int 0, .int 0, .int 0, .int 0, .int 0])), (q_1, .inl (c_2, 91, .inr (.inl (tbL nmL 78))))] := hD
  refine ch_D_init_549 hx hb hown ht hK hP hD hS (fun H locs hP hD hS => ?_)
  have hP : va_P D vwCl [(a0, .inr (6, [.null, .null, .null, .int 0, .int 0, .int 0, .int 0, .null, .null, .null, .null, .null, .int 0, .int 0, .int 0, .int 0, .int 0, .int 0, .int 0, .int 0, .int 0, .int 0, .int 0, .int 0, .int 0, .int 0, .int 0, .int 0, .int 0, .int 0, .int 0])), (q_1, .inl (c_2, 91, .inr (.inl (tbL nmL 91))))] H := hP
  have hD : va_D A [(a0, .inr (6, [.null, .null, .null, .int 0, .int 0, .int 0, .int 0, .null, .null, .null, .null, .null, .int 0, .int 0, .int 0, .int 0, .int 0, .int 0, .int 0, .int 0, .int 0, .int 0, .int 0, .int 0, .int 0, .int 0, .int 0, .int 0, .int 0, .int 0, .int 0])), (q_1, .inl (c_2, 91, .inr (.inl (tbL nmL 91))))] := hD
  refine va_putF (D := D) (ci := 6) (v := .ref q_1) (ty := (.array .long)) (C := "WindowMachineModel") (T := T_D) (N := 31) hx hb ht zi_D ty_D tyok_D nm_D hown hK hP hD hS 0 rfl rfl 0 (by decide) (ht _ zw_854) (fun _ h9 => h9) rfl hin rfl (by decide +kernel) rfl rfl (Nat.le_of_ble_eq_true rfl) d_D_init_640 (fun H locs hP hD hS => ?_)
  have hP : va_P D vwCl [(a0, .inr (6, [.ref q_1, .null, .null, .int 0, .int 0, .int 0, .int 0, .null, .null, .null, .null, .null, .int 0, .int 0, .int 0, .int 0, .int 0, .int 0, .int 0, .int 0, .int 0, .int 0, .int 0, .int 0, .int 0, .int 0, .int 0, .int 0, .int 0, .int 0, .int 0])), (q_1, .inl (c_2, 91, .inr (.inl (tbL nmL 91))))] H := hP
  have hD : va_D A [(a0, .inr (6, [.ref q_1, .null, .null, .int 0, .int 0, .int 0, .int 0, .null, .null, .null, .null, .null, .int 0, .int 0, .int 0, .int 0, .int 0, .int 0, .int 0, .int 0, .int 0, .int 0, .int 0, .int 0, .int 0, .int 0, .int 0, .int 0, .int 0, .int 0, .int 0])), (q_1, .inl (c_2, 91, .inr (.inl (tbL nmL 91))))] := hD
  refine lv_aload_n hx hb d_D_init_643 rfl (lv_at hl 0 rfl) ?_
  refine lv_bipush (v := (91 : Int32)) hx hb d_D_init_644 (by decide) ?_
  refine va_newa (D := D) hx hb (ht _ zw_37) (ty := .int) rfl hK hP hD hS hA (N' := 91) (a0 := (91, .inl (fun _ => (0 : Int32)))) (fun _ => rfl) (by decide) rfl (by decide) (Nat.le_of_ble_eq_true rfl) (Nat.le_of_ble_eq_true rfl) d_D_init_646 (fun q_3 c_4 H hK hP hD hS => ?_)
  have hP : va_P D vwCl [(a0, .inr (6, [.ref q_1, .null, .null, .int 0, .int 0, .int 0, .int 0, .null, .null, .null, .null, .null, .int 0, .int 0, .int 0, .int 0, .int 0, .int 0, .int 0, .int 0, .int 0, .int 0, .int 0, .int 0, .int 0, .int 0, .int 0, .int 0, .int 0, .int 0, .int 0])), (q_1, .inl (c_2, 91, .inr (.inl (tbL nmL 91)))), (q_3, .inl (c_4, 91, .inl (fun _ => (0 : Int32))))] H := hP
  have hD : va_D A [(a0, .inr (6, [.ref q_1, .null, .null, .int 0, .int 0, .int 0, .int 0, .null, .null, .null, .null, .null, .int 0, .int 0, .int 0, .int 0, .int 0, .int 0, .int 0, .int 0, .int 0, .int 0, .int 0, .int 0, .int 0, .int 0, .int 0, .int 0, .int 0, .int 0, .int 0])), (q_1, .inl (c_2, 91, .inr (.inl (tbL nmL 91)))), (q_3, .inl (c_4, 91, .inl (fun _ => (0 : Int32))))] := hD
  have hK : va_K D vwCl [(c_2, .long), (c_4, .int)] s := hK
  rw [tbI_0 fmL] at hP hD
  have hP : va_P D vwCl [(a0, .inr (6, [.ref q_1, .null, .null, .int 0, .int 0, .int 0, .int 0, .null, .null, .null, .null, .null, .int 0, .int 0, .int 0, .int 0, .int 0, .int 0, .int 0, .int 0, .int 0, .int 0, .int 0, .int 0, .int 0, .int 0, .int 0, .int 0, .int 0, .int 0, .int 0])), (q_1, .inl (c_2, 91, .inr (.inl (tbL nmL 91)))), (q_3, .inl (c_4, 91, .inl (tbI fmL 0)))] H := hP
  have hD : va_D A [(a0, .inr (6, [.ref q_1, .null, .null, .int 0, .int 0, .int 0, .int 0, .null, .null, .null, .null, .null, .int 0, .int 0, .int 0, .int 0, .int 0, .int 0, .int 0, .int 0, .int 0, .int 0, .int 0, .int 0, .int 0, .int 0, .int 0, .int 0, .int 0, .int 0, .int 0])), (q_1, .inl (c_2, 91, .inr (.inl (tbL nmL 91)))), (q_3, .inl (c_4, 91, .inl (tbI fmL 0)))] := hD
  refine ch_D_init_648 hx hb hown ht hK hP hD hS (fun H locs hP hD hS => ?_)
  have hP : va_P D vwCl [(a0, .inr (6, [.ref q_1, .null, .null, .int 0, .int 0, .int 0, .int 0, .null, .null, .null, .null, .null, .int 0, .int 0, .int 0, .int 0, .int 0, .int 0, .int 0, .int 0, .int 0, .int 0, .int 0, .int 0, .int 0, .int 0, .int 0, .int 0, .int 0, .int 0, .int 0])), (q_1, .inl (c_2, 91, .inr (.inl (tbL nmL 91)))), (q_3, .inl (c_4, 91, .inl (tbI fmL 13)))] H := hP
  have hD : va_D A [(a0, .inr (6, [.ref q_1, .null, .null, .int 0, .int 0, .int 0, .int 0, .null, .null, .null, .null, .null, .int 0, .int 0, .int 0, .int 0, .int 0, .int 0, .int 0, .int 0, .int 0, .int 0, .int 0, .int 0, .int 0, .int 0, .int 0, .int 0, .int 0, .int 0, .int 0])), (q_1, .inl (c_2, 91, .inr (.inl (tbL nmL 91)))), (q_3, .inl (c_4, 91, .inl (tbI fmL 13)))] := hD
  refine ch_D_init_707 hx hb hown ht hK hP hD hS (fun H locs hP hD hS => ?_)
  have hP : va_P D vwCl [(a0, .inr (6, [.ref q_1, .null, .null, .int 0, .int 0, .int 0, .int 0, .null, .null, .null, .null, .null, .int 0, .int 0, .int 0, .int 0, .int 0, .int 0, .int 0, .int 0, .int 0, .int 0, .int 0, .int 0, .int 0, .int 0, .int 0, .int 0, .int 0, .int 0, .int 0])), (q_1, .inl (c_2, 91, .inr (.inl (tbL nmL 91)))), (q_3, .inl (c_4, 91, .inl (tbI fmL 26)))] H := hP
  have hD : va_D A [(a0, .inr (6, [.ref q_1, .null, .null, .int 0, .int 0, .int 0, .int 0, .null, .null, .null, .null, .null, .int 0, .int 0, .int 0, .int 0, .int 0, .int 0, .int 0, .int 0, .int 0, .int 0, .int 0, .int 0, .int 0, .int 0, .int 0, .int 0, .int 0, .int 0, .int 0])), (q_1, .inl (c_2, 91, .inr (.inl (tbL nmL 91)))), (q_3, .inl (c_4, 91, .inl (tbI fmL 26)))] := hD
  refine ch_D_init_772 hx hb hown ht hK hP hD hS (fun H locs hP hD hS => ?_)
  have hP : va_P D vwCl [(a0, .inr (6, [.ref q_1, .null, .null, .int 0, .int 0, .int 0, .int 0, .null, .null, .null, .null, .null, .int 0, .int 0, .int 0, .int 0, .int 0, .int 0, .int 0, .int 0, .int 0, .int 0, .int 0, .int 0, .int 0, .int 0, .int 0, .int 0, .int 0, .int 0, .int 0])), (q_1, .inl (c_2, 91, .inr (.inl (tbL nmL 91)))), (q_3, .inl (c_4, 91, .inl (tbI fmL 39)))] H := hP
  have hD : va_D A [(a0, .inr (6, [.ref q_1, .null, .null, .int 0, .int 0, .int 0, .int 0, .null, .null, .null, .null, .null, .int 0, .int 0, .int 0, .int 0, .int 0, .int 0, .int 0, .int 0, .int 0, .int 0, .int 0, .int 0, .int 0, .int 0, .int 0, .int 0, .int 0, .int 0, .int 0])), (q_1, .inl (c_2, 91, .inr (.inl (tbL nmL 91)))), (q_3, .inl (c_4, 91, .inl (tbI fmL 39)))] := hD
  refine ch_D_init_837 hx hb hown ht hK hP hD hS (fun H locs hP hD hS => ?_)
  have hP : va_P D vwCl [(a0, .inr (6, [.ref q_1, .null, .null, .int 0, .int 0, .int 0, .int 0, .null, .null, .null, .null, .null, .int 0, .int 0, .int 0, .int 0, .int 0, .int 0, .int 0, .int 0, .int 0, .int 0, .int 0, .int 0, .int 0, .int 0, .int 0, .int 0, .int 0, .int 0, .int 0])), (q_1, .inl (c_2, 91, .inr (.inl (tbL nmL 91)))), (q_3, .inl (c_4, 91, .inl (tbI fmL 52)))] H := hP
  have hD : va_D A [(a0, .inr (6, [.ref q_1, .null, .null, .int 0, .int 0, .int 0, .int 0, .null, .null, .null, .null, .null, .int 0, .int 0, .int 0, .int 0, .int 0, .int 0, .int 0, .int 0, .int 0, .int 0, .int 0, .int 0, .int 0, .int 0, .int 0, .int 0, .int 0, .int 0, .int 0])), (q_1, .inl (c_2, 91, .inr (.inl (tbL nmL 91)))), (q_3, .inl (c_4, 91, .inl (tbI fmL 52)))] := hD
  refine ch_D_init_902 hx hb hown ht hK hP hD hS (fun H locs hP hD hS => ?_)
  have hP : va_P D vwCl [(a0, .inr (6, [.ref q_1, .null, .null, .int 0, .int 0, .int 0, .int 0, .null, .null, .null, .null, .null, .int 0, .int 0, .int 0, .int 0, .int 0, .int 0, .int 0, .int 0, .int 0, .int 0, .int 0, .int 0, .int 0, .int 0, .int 0, .int 0, .int 0, .int 0, .int 0])), (q_1, .inl (c_2, 91, .inr (.inl (tbL nmL 91)))), (q_3, .inl (c_4, 91, .inl (tbI fmL 65)))] H := hP
  have hD : va_D A [(a0, .inr (6, [.ref q_1, .null, .null, .int 0, .int 0, .int 0, .int 0, .null, .null, .null, .null, .null, .int 0, .int 0, .int 0, .int 0, .int 0, .int 0, .int 0, .int 0, .int 0, .int 0, .int 0, .int 0, .int 0, .int 0, .int 0, .int 0, .int 0, .int 0, .int 0])), (q_1, .inl (c_2, 91, .inr (.inl (tbL nmL 91)))), (q_3, .inl (c_4, 91, .inl (tbI fmL 65)))] := hD
  refine ch_D_init_967 hx hb hown ht hK hP hD hS (fun H locs hP hD hS => ?_)
  have hP : va_P D vwCl [(a0, .inr (6, [.ref q_1, .null, .null, .int 0, .int 0, .int 0, .int 0, .null, .null, .null, .null, .null, .int 0, .int 0, .int 0, .int 0, .int 0, .int 0, .int 0, .int 0, .int 0, .int 0, .int 0, .int 0, .int 0, .int 0, .int 0, .int 0, .int 0, .int 0, .int 0])), (q_1, .inl (c_2, 91, .inr (.inl (tbL nmL 91)))), (q_3, .inl (c_4, 91, .inl (tbI fmL 78)))] H := hP
  have hD : va_D A [(a0, .inr (6, [.ref q_1, .null, .null, .int 0, .int 0, .int 0, .int 0, .null, .null, .null, .null, .null, .int 0, .int 0, .int 0, .int 0, .int 0, .int 0, .int 0, .int 0, .int 0, .int 0, .int 0, .int 0, .int 0, .int 0, .int 0, .int 0, .int 0, .int 0, .int 0])), (q_1, .inl (c_2, 91, .inr (.inl (tbL nmL 91)))), (q_3, .inl (c_4, 91, .inl (tbI fmL 78)))] := hD
  refine ch_D_init_1032 hx hb hown ht hK hP hD hS (fun H locs hP hD hS => ?_)
  have hP : va_P D vwCl [(a0, .inr (6, [.ref q_1, .null, .null, .int 0, .int 0, .int 0, .int 0, .null, .null, .null, .null, .null, .int 0, .int 0, .int 0, .int 0, .int 0, .int 0, .int 0, .int 0, .int 0, .int 0, .int 0, .int 0, .int 0, .int 0, .int 0, .int 0, .int 0, .int 0, .int 0])), (q_1, .inl (c_2, 91, .inr (.inl (tbL nmL 91)))), (q_3, .inl (c_4, 91, .inl (tbI fmL 91)))] H := hP
  have hD : va_D A [(a0, .inr (6, [.ref q_1, .null, .null, .int 0, .int 0, .int 0, .int 0, .null, .null, .null, .null, .null, .int 0, .int 0, .int 0, .int 0, .int 0, .int 0, .int 0, .int 0, .int 0, .int 0, .int 0, .int 0, .int 0, .int 0, .int 0, .int 0, .int 0, .int 0, .int 0])), (q_1, .inl (c_2, 91, .inr (.inl (tbL nmL 91)))), (q_3, .inl (c_4, 91, .inl (tbI fmL 91)))] := hD
  refine va_putF (D := D) (ci := 6) (v := .ref q_3) (ty := (.array .int)) (C := "WindowMachineModel") (T := T_D) (N := 31) hx hb ht zi_D ty_D tyok_D nm_D hown hK hP hD hS 0 rfl rfl 1 (by decide) (ht _ zw_855) (fun _ h9 => h9) rfl hin rfl (by decide +kernel) rfl rfl (Nat.le_of_ble_eq_true rfl) d_D_init_1102 (fun H locs hP hD hS => ?_)
  have hP : va_P D vwCl [(a0, .inr (6, [.ref q_1, .ref q_3, .null, .int 0, .int 0, .int 0, .int 0, .null, .null, .null, .null, .null, .int 0, .int 0, .int 0, .int 0, .int 0, .int 0, .int 0, .int 0, .int 0, .int 0, .int 0, .int 0, .int 0, .int 0, .int 0, .int 0, .int 0, .int 0, .int 0])), (q_1, .inl (c_2, 91, .inr (.inl (tbL nmL 91)))), (q_3, .inl (c_4, 91, .inl (tbI fmL 91)))] H := hP
  have hD : va_D A [(a0, .inr (6, [.ref q_1, .ref q_3, .null, .int 0, .int 0, .int 0, .int 0, .null, .null, .null, .null, .null, .int 0, .int 0, .int 0, .int 0, .int 0, .int 0, .int 0, .int 0, .int 0, .int 0, .int 0, .int 0, .int 0, .int 0, .int 0, .int 0, .int 0, .int 0, .int 0])), (q_1, .inl (c_2, 91, .inr (.inl (tbL nmL 91)))), (q_3, .inl (c_4, 91, .inl (tbI fmL 91)))] := hD
  refine lv_aload_n hx hb d_D_init_1105 rfl (lv_at hl 0 rfl) ?_
  refine lv_bipush (v := (91 : Int32)) hx hb d_D_init_1106 (by decide) ?_
  refine va_newa (D := D) hx hb (ht _ zw_37) (ty := .int) rfl hK hP hD hS hA (N' := 91) (a0 := (91, .inl (fun _ => (0 : Int32)))) (fun _ => rfl) (by decide) rfl (by decide) (Nat.le_of_ble_eq_true rfl) (Nat.le_of_ble_eq_true rfl) d_D_init_1108 (fun q_5 c_6 H hK hP hD hS => ?_)
  have hP : va_P D vwCl [(a0, .inr (6, [.ref q_1, .ref q_3, .null, .int 0, .int 0, .int 0, .int 0, .null, .null, .null, .null, .null, .int 0, .int 0, .int 0, .int 0, .int 0, .int 0, .int 0, .int 0, .int 0, .int 0, .int 0, .int 0, .int 0, .int 0, .int 0, .int 0, .int 0, .int 0, .int 0])), (q_1, .inl (c_2, 91, .inr (.inl (tbL nmL 91)))), (q_3, .inl (c_4, 91, .inl (tbI fmL 91))), (q_5, .inl (c_6, 91, .inl (fun _ => (0 : Int32))))] H := hP
  have hD : va_D A [(a0, .inr (6, [.ref q_1, .ref q_3, .null, .int 0, .int 0, .int 0, .int 0, .null, .null, .null, .null, .null, .int 0, .int 0, .int 0, .int 0, .int 0, .int 0, .int 0, .int 0, .int 0, .int 0, .int 0, .int 0, .int 0, .int 0, .int 0, .int 0, .int 0, .int 0, .int 0])), (q_1, .inl (c_2, 91, .inr (.inl (tbL nmL 91)))), (q_3, .inl (c_4, 91, .inl (tbI fmL 91))), (q_5, .inl (c_6, 91, .inl (fun _ => (0 : Int32))))] := hD
  have hK : va_K D vwCl [(c_2, .long), (c_4, .int), (c_6, .int)] s := hK
  rw [tbI_0 cdL] at hP hD
  have hP : va_P D vwCl [(a0, .inr (6, [.ref q_1, .ref q_3, .null, .int 0, .int 0, .int 0, .int 0, .null, .null, .null, .null, .null, .int 0, .int 0, .int 0, .int 0, .int 0, .int 0, .int 0, .int 0, .int 0, .int 0, .int 0, .int 0, .int 0, .int 0, .int 0, .int 0, .int 0, .int 0, .int 0])), (q_1, .inl (c_2, 91, .inr (.inl (tbL nmL 91)))), (q_3, .inl (c_4, 91, .inl (tbI fmL 91))), (q_5, .inl (c_6, 91, .inl (tbI cdL 0)))] H := hP
  have hD : va_D A [(a0, .inr (6, [.ref q_1, .ref q_3, .null, .int 0, .int 0, .int 0, .int 0, .null, .null, .null, .null, .null, .int 0, .int 0, .int 0, .int 0, .int 0, .int 0, .int 0, .int 0, .int 0, .int 0, .int 0, .int 0, .int 0, .int 0, .int 0, .int 0, .int 0, .int 0, .int 0])), (q_1, .inl (c_2, 91, .inr (.inl (tbL nmL 91)))), (q_3, .inl (c_4, 91, .inl (tbI fmL 91))), (q_5, .inl (c_6, 91, .inl (tbI cdL 0)))] := hD
  refine ch_D_init_1110 hx hb hown ht hK hP hD hS (fun H locs hP hD hS => ?_)
  have hP : va_P D vwCl [(a0, .inr (6, [.ref q_1, .ref q_3, .null, .int 0, .int 0, .int 0, .int 0, .null, .null, .null, .null, .null, .int 0, .int 0, .int 0, .int 0, .int 0, .int 0, .int 0, .int 0, .int 0, .int 0, .int 0, .int 0, .int 0, .int 0, .int 0, .int 0, .int 0, .int 0, .int 0])), (q_1, .inl (c_2, 91, .inr (.inl (tbL nmL 91)))), (q_3, .inl (c_4, 91, .inl (tbI fmL 91))), (q_5, .inl (c_6, 91, .inl (tbI cdL 13)))] H := hP
  have hD : va_D A [(a0, .inr (6, [.ref q_1, .ref q_3, .null, .int 0, .int 0, .int 0, .int 0, .null, .null, .null, .null, .null, .int 0, .int 0, .int 0, .int 0, .int 0, .int 0, .int 0, .int 0, .int 0, .int 0, .int 0, .int 0, .int 0, .int 0, .int 0, .int 0, .int 0, .int 0, .int 0])), (q_1, .inl (c_2, 91, .inr (.inl (tbL nmL 91)))), (q_3, .inl (c_4, 91, .inl (tbI fmL 91))), (q_5, .inl (c_6, 91, .inl (tbI cdL 13)))] := hD
  refine ch_D_init_1195 hx hb hown ht hK hP hD hS (fun H locs hP hD hS => ?_)
  have hP : va_P D vwCl [(a0, .inr (6, [.ref q_1, .ref q_3, .null, .int 0, .int 0, .int 0, .int 0, .null, .null, .null, .null, .null, .int 0, .int 0, .int 0, .int 0, .int 0, .int 0, .int 0, .int 0, .int 0, .int 0, .int 0, .int 0, .int 0, .int 0, .int 0, .int 0, .int 0, .int 0, .int 0])), (q_1, .inl (c_2, 91, .inr (.inl (tbL nmL 91)))), (q_3, .inl (c_4, 91, .inl (tbI fmL 91))), (q_5, .inl (c_6, 91, .inl (tbI cdL 26)))] H := hP
  have hD : va_D A [(a0, .inr (6, [.ref q_1, .ref q_3, .null, .int 0, .int 0, .int 0, .int 0, .null, .null, .null, .null, .null, .int 0, .int 0, .int 0, .int 0, .int 0, .int 0, .int 0, .int 0, .int 0, .int 0, .int 0, .int 0, .int 0, .int 0, .int 0, .int 0, .int 0, .int 0, .int 0])), (q_1, .inl (c_2, 91, .inr (.inl (tbL nmL 91)))), (q_3, .inl (c_4, 91, .inl (tbI fmL 91))), (q_5, .inl (c_6, 91, .inl (tbI cdL 26)))] := hD
  refine ch_D_init_1286 hx hb hown ht hK hP hD hS (fun H locs hP hD hS => ?_)
  have hP : va_P D vwCl [(a0, .inr (6, [.ref q_1, .ref q_3, .null, .int 0, .int 0, .int 0, .int 0, .null, .null, .null, .null, .null, .int 0, .int 0, .int 0, .int 0, .int 0, .int 0, .int 0, .int 0, .int 0, .int 0, .int 0, .int 0, .int 0, .int 0, .int 0, .int 0, .int 0, .int 0, .int 0])), (q_1, .inl (c_2, 91, .inr (.inl (tbL nmL 91)))), (q_3, .inl (c_4, 91, .inl (tbI fmL 91))), (q_5, .inl (c_6, 91, .inl (tbI cdL 39)))] H := hP
  have hD : va_D A [(a0, .inr (6, [.ref q_1, .ref q_3, .null, .int 0, .int 0, .int 0, .int 0, .null, .null, .null, .null, .null, .int 0, .int 0, .int 0, .int 0, .int 0, .int 0, .int 0, .int 0, .int 0, .int 0, .int 0, .int 0, .int 0, .int 0, .int 0, .int 0, .int 0, .int 0, .int 0])), (q_1, .inl (c_2, 91, .inr (.inl (tbL nmL 91)))), (q_3, .inl (c_4, 91, .inl (tbI fmL 91))), (q_5, .inl (c_6, 91, .inl (tbI cdL 39)))] := hD
  refine ch_D_init_1372 hx hb hown ht hK hP hD hS (fun H locs hP hD hS => ?_)
  have hP : va_P D vwCl [(a0, .inr (6, [.ref q_1, .ref q_3, .null, .int 0, .int 0, .int 0, .int 0, .null, .null, .null, .null, .null, .int 0, .int 0, .int 0, .int 0, .int 0, .int 0, .int 0, .int 0, .int 0, .int 0, .int 0, .int 0, .int 0, .int 0, .int 0, .int 0, .int 0, .int 0, .int 0])), (q_1, .inl (c_2, 91, .inr (.inl (tbL nmL 91)))), (q_3, .inl (c_4, 91, .inl (tbI fmL 91))), (q_5, .inl (c_6, 91, .inl (tbI cdL 52)))] H := hP
  have hD : va_D A [(a0, .inr (6, [.ref q_1, .ref q_3, .null, .int 0, .int 0, .int 0, .int 0, .null, .null, .null, .null, .null, .int 0, .int 0, .int 0, .int 0, .int 0, .int 0, .int 0, .int 0, .int 0, .int 0, .int 0, .int 0, .int 0, .int 0, .int 0, .int 0, .int 0, .int 0, .int 0])), (q_1, .inl (c_2, 91, .inr (.inl (tbL nmL 91)))), (q_3, .inl (c_4, 91, .inl (tbI fmL 91))), (q_5, .inl (c_6, 91, .inl (tbI cdL 52)))] := hD
  refine ch_D_init_1454 hx hb hown ht hK hP hD hS (fun H locs hP hD hS => ?_)
  have hP : va_P D vwCl [(a0, .inr (6, [.ref q_1, .ref q_3, .null, .int 0, .int 0, .int 0, .int 0, .null, .null, .null, .null, .null, .int 0, .int 0, .int 0, .int 0, .int 0, .int 0, .int 0, .int 0, .int 0, .int 0, .int 0, .int 0, .int 0, .int 0, .int 0, .int 0, .int 0, .int 0, .int 0])), (q_1, .inl (c_2, 91, .inr (.inl (tbL nmL 91)))), (q_3, .inl (c_4, 91, .inl (tbI fmL 91))), (q_5, .inl (c_6, 91, .inl (tbI cdL 65)))] H := hP
  have hD : va_D A [(a0, .inr (6, [.ref q_1, .ref q_3, .null, .int 0, .int 0, .int 0, .int 0, .null, .null, .null, .null, .null, .int 0, .int 0, .int 0, .int 0, .int 0, .int 0, .int 0, .int 0, .int 0, .int 0, .int 0, .int 0, .int 0, .int 0, .int 0, .int 0, .int 0, .int 0, .int 0])), (q_1, .inl (c_2, 91, .inr (.inl (tbL nmL 91)))), (q_3, .inl (c_4, 91, .inl (tbI fmL 91))), (q_5, .inl (c_6, 91, .inl (tbI cdL 65)))] := hD
  refine ch_D_init_1535 hx hb hown ht hK hP hD hS (fun H locs hP hD hS => ?_)
  have hP : va_P D vwCl [(a0, .inr (6, [.ref q_1, .ref q_3, .null, .int 0, .int 0, .int 0, .int 0, .null, .null, .null, .null, .null, .int 0, .int 0, .int 0, .int 0, .int 0, .int 0, .int 0, .int 0, .int 0, .int 0, .int 0, .int 0, .int 0, .int 0, .int 0, .int 0, .int 0, .int 0, .int 0])), (q_1, .inl (c_2, 91, .inr (.inl (tbL nmL 91)))), (q_3, .inl (c_4, 91, .inl (tbI fmL 91))), (q_5, .inl (c_6, 91, .inl (tbI cdL 78)))] H := hP
  have hD : va_D A [(a0, .inr (6, [.ref q_1, .ref q_3, .null, .int 0, .int 0, .int 0, .int 0, .null, .null, .null, .null, .null, .int 0, .int 0, .int 0, .int 0, .int 0, .int 0, .int 0, .int 0, .int 0, .int 0, .int 0, .int 0, .int 0, .int 0, .int 0, .int 0, .int 0, .int 0, .int 0])), (q_1, .inl (c_2, 91, .inr (.inl (tbL nmL 91)))), (q_3, .inl (c_4, 91, .inl (tbI fmL 91))), (q_5, .inl (c_6, 91, .inl (tbI cdL 78)))] := hD
  refine ch_D_init_1620 hx hb hown ht hK hP hD hS (fun H locs hP hD hS => ?_)
  have hP : va_P D vwCl [(a0, .inr (6, [.ref q_1, .ref q_3, .null, .int 0, .int 0, .int 0, .int 0, .null, .null, .null, .null, .null, .int 0, .int 0, .int 0, .int 0, .int 0, .int 0, .int 0, .int 0, .int 0, .int 0, .int 0, .int 0, .int 0, .int 0, .int 0, .int 0, .int 0, .int 0, .int 0])), (q_1, .inl (c_2, 91, .inr (.inl (tbL nmL 91)))), (q_3, .inl (c_4, 91, .inl (tbI fmL 91))), (q_5, .inl (c_6, 91, .inl (tbI cdL 91)))] H := hP
  have hD : va_D A [(a0, .inr (6, [.ref q_1, .ref q_3, .null, .int 0, .int 0, .int 0, .int 0, .null, .null, .null, .null, .null, .int 0, .int 0, .int 0, .int 0, .int 0, .int 0, .int 0, .int 0, .int 0, .int 0, .int 0, .int 0, .int 0, .int 0, .int 0, .int 0, .int 0, .int 0, .int 0])), (q_1, .inl (c_2, 91, .inr (.inl (tbL nmL 91)))), (q_3, .inl (c_4, 91, .inl (tbI fmL 91))), (q_5, .inl (c_6, 91, .inl (tbI cdL 91)))] := hD
  refine va_putF (D := D) (ci := 6) (v := .ref q_5) (ty := (.array .int)) (C := "WindowMachineModel") (T := T_D) (N := 31) hx hb ht zi_D ty_D tyok_D nm_D hown hK hP hD hS 0 rfl rfl 2 (by decide) (ht _ zw_856) (fun _ h9 => h9) rfl hin rfl (by decide +kernel) rfl rfl (Nat.le_of_ble_eq_true rfl) d_D_init_1709 (fun H locs hP hD hS => ?_)
  have hP : va_P D vwCl [(a0, .inr (6, [.ref q_1, .ref q_3, .ref q_5, .int 0, .int 0, .int 0, .int 0, .null, .null, .null, .null, .null, .int 0, .int 0, .int 0, .int 0, .int 0, .int 0, .int 0, .int 0, .int 0, .int 0, .int 0, .int 0, .int 0, .int 0, .int 0, .int 0, .int 0, .int 0, .int 0])), (q_1, .inl (c_2, 91, .inr (.inl (tbL nmL 91)))), (q_3, .inl (c_4, 91, .inl (tbI fmL 91))), (q_5, .inl (c_6, 91, .inl (tbI cdL 91)))] H := hP
  have hD : va_D A [(a0, .inr (6, [.ref q_1, .ref q_3, .ref q_5, .int 0, .int 0, .int 0, .int 0, .null, .null, .null, .null, .null, .int 0, .int 0, .int 0, .int 0, .int 0, .int 0, .int 0, .int 0, .int 0, .int 0, .int 0, .int 0, .int 0, .int 0, .int 0, .int 0, .int 0, .int 0, .int 0])), (q_1, .inl (c_2, 91, .inr (.inl (tbL nmL 91)))), (q_3, .inl (c_4, 91, .inl (tbI fmL 91))), (q_5, .inl (c_6, 91, .inl (tbI cdL 91)))] := hD
  refine lv_aload_n hx hb d_D_init_1712 rfl (lv_at hl 0 rfl) ?_
  refine lv_iconst (v := (-1 : Int32)) hx hb d_D_init_1713 (by decide) ?_
  refine va_put (D := D) (ci := 6) (v := .int (-1 : Int32)) (ty := .int) (C := "WindowMachineModel") (T := T_D) (N := 31) hx hb ht zi_D ty_D tyok_D nm_D hown hK hP hD hS 0 rfl rfl 5 (by decide) (ht _ zw_859) (fun _ h9 => h9) rfl (by decide +kernel) rfl rfl (Nat.le_of_ble_eq_true rfl) d_D_init_1714 (fun H locs hP hD hS => ?_)
  have hP : va_P D vwCl [(a0, .inr (6, [.ref q_1, .ref q_3, .ref q_5, .int 0, .int 0, .int (-1 : Int32), .int 0, .null, .null, .null, .null, .null, .int 0, .int 0, .int 0, .int 0, .int 0, .int 0, .int 0, .int 0, .int 0, .int 0, .int 0, .int 0, .int 0, .int 0, .int 0, .int 0, .int 0, .int 0, .int 0])), (q_1, .inl (c_2, 91, .inr (.inl (tbL nmL 91)))), (q_3, .inl (c_4, 91, .inl (tbI fmL 91))), (q_5, .inl (c_6, 91, .inl (tbI cdL 91)))] H := hP
  have hD : va_D A [(a0, .inr (6, [.ref q_1, .ref q_3, .ref q_5, .int 0, .int 0, .int (-1 : Int32), .int 0, .null, .null, .null, .null, .null, .int 0, .int 0, .int 0, .int 0, .int 0, .int 0, .int 0, .int 0, .int 0, .int 0, .int 0, .int 0, .int 0, .int 0, .int 0, .int 0, .int 0, .int 0, .int 0])), (q_1, .inl (c_2, 91, .inr (.inl (tbL nmL 91)))), (q_3, .inl (c_4, 91, .inl (tbI fmL 91))), (q_5, .inl (c_6, 91, .inl (tbI cdL 91)))] := hD
  refine lv_aload_n hx hb d_D_init_1717 rfl (lv_at hl 0 rfl) ?_
  refine lv_bipush (v := (40 : Int32)) hx hb d_D_init_1718 (by decide) ?_
  refine va_newa (D := D) hx hb (ht _ zw_37) (ty := .int) rfl hK hP hD hS hA (N' := 40) (a0 := (40, .inl (fun _ => (0 : Int32)))) (fun _ => rfl) (by decide) rfl (by decide) (Nat.le_of_ble_eq_true rfl) (Nat.le_of_ble_eq_true rfl) d_D_init_1720 (fun q_7 c_8 H hK hP hD hS => ?_)
  have hP : va_P D vwCl [(a0, .inr (6, [.ref q_1, .ref q_3, .ref q_5, .int 0, .int 0, .int (-1 : Int32), .int 0, .null, .null, .null, .null, .null, .int 0, .int 0, .int 0, .int 0, .int 0, .int 0, .int 0, .int 0, .int 0, .int 0, .int 0, .int 0, .int 0, .int 0, .int 0, .int 0, .int 0, .int 0, .int 0])), (q_1, .inl (c_2, 91, .inr (.inl (tbL nmL 91)))), (q_3, .inl (c_4, 91, .inl (tbI fmL 91))), (q_5, .inl (c_6, 91, .inl (tbI cdL 91))), (q_7, .inl (c_8, 40, .inl (fun _ => (0 : Int32))))] H := hP
  have hD : va_D A [(a0, .inr (6, [.ref q_1, .ref q_3, .ref q_5, .int 0, .int 0, .int (-1 : Int32), .int 0, .null, .null, .null, .null, .null, .int 0, .int 0, .int 0, .int 0, .int 0, .int 0, .int 0, .int 0, .int 0, .int 0, .int 0, .int 0, .int 0, .int 0, .int 0, .int 0, .int 0, .int 0, .int 0])), (q_1, .inl (c_2, 91, .inr (.inl (tbL nmL 91)))), (q_3, .inl (c_4, 91, .inl (tbI fmL 91))), (q_5, .inl (c_6, 91, .inl (tbI cdL 91))), (q_7, .inl (c_8, 40, .inl (fun _ => (0 : Int32))))] := hD
  have hK : va_K D vwCl [(c_2, .long), (c_4, .int), (c_6, .int), (c_8, .int)] s := hK
  refine va_putF (D := D) (ci := 6) (v := .ref q_7) (ty := (.array .int)) (C := "WindowMachineModel") (T := T_D) (N := 31) hx hb ht zi_D ty_D tyok_D nm_D hown hK hP hD hS 0 rfl rfl 7 (by decide) (ht _ zw_861) (fun _ h9 => h9) rfl hin rfl (by decide +kernel) rfl rfl (Nat.le_of_ble_eq_true rfl) d_D_init_1722 (fun H locs hP hD hS => ?_)
  have hP : va_P D vwCl [(a0, .inr (6, [.ref q_1, .ref q_3, .ref q_5, .int 0, .int 0, .int (-1 : Int32), .int 0, .ref q_7, .null, .null, .null, .null, .int 0, .int 0, .int 0, .int 0, .int 0, .int 0, .int 0, .int 0, .int 0, .int 0, .int 0, .int 0, .int 0, .int 0, .int 0, .int 0, .int 0, .int 0, .int 0])), (q_1, .inl (c_2, 91, .inr (.inl (tbL nmL 91)))), (q_3, .inl (c_4, 91, .inl (tbI fmL 91))), (q_5, .inl (c_6, 91, .inl (tbI cdL 91))), (q_7, .inl (c_8, 40, .inl (fun _ => (0 : Int32))))] H := hP
  have hD : va_D A [(a0, .inr (6, [.ref q_1, .ref q_3, .ref q_5, .int 0, .int 0, .int (-1 : Int32), .int 0, .ref q_7, .null, .null, .null, .null, .int 0, .int 0, .int 0, .int 0, .int 0, .int 0, .int 0, .int 0, .int 0, .int 0, .int 0, .int 0, .int 0, .int 0, .int 0, .int 0, .int 0, .int 0, .int 0])), (q_1, .inl (c_2, 91, .inr (.inl (tbL nmL 91)))), (q_3, .inl (c_4, 91, .inl (tbI fmL 91))), (q_5, .inl (c_6, 91, .inl (tbI cdL 91))), (q_7, .inl (c_8, 40, .inl (fun _ => (0 : Int32))))] := hD
  refine lv_aload_n hx hb d_D_init_1725 rfl (lv_at hl 0 rfl) ?_
  refine lv_sipush (v := (1024 : Int32)) hx hb d_D_init_1726 (by decide) ?_
  refine va_newa (D := D) hx hb (ht _ zw_37) (ty := .int) rfl hK hP hD hS hA (N' := 1024) (a0 := (1024, .inl (fun _ => (0 : Int32)))) (fun _ => rfl) (by decide) rfl (by decide) (Nat.le_of_ble_eq_true rfl) (Nat.le_of_ble_eq_true rfl) d_D_init_1729 (fun q_9 c_10 H hK hP hD hS => ?_)
  have hP : va_P D vwCl [(a0, .inr (6, [.ref q_1, .ref q_3, .ref q_5, .int 0, .int 0, .int (-1 : Int32), .int 0, .ref q_7, .null, .null, .null, .null, .int 0, .int 0, .int 0, .int 0, .int 0, .int 0, .int 0, .int 0, .int 0, .int 0, .int 0, .int 0, .int 0, .int 0, .int 0, .int 0, .int 0, .int 0, .int 0])), (q_1, .inl (c_2, 91, .inr (.inl (tbL nmL 91)))), (q_3, .inl (c_4, 91, .inl (tbI fmL 91))), (q_5, .inl (c_6, 91, .inl (tbI cdL 91))), (q_7, .inl (c_8, 40, .inl (fun _ => (0 : Int32)))), (q_9, .inl (c_10, 1024, .inl (fun _ => (0 : Int32))))] H := hP
  have hD : va_D A [(a0, .inr (6, [.ref q_1, .ref q_3, .ref q_5, .int 0, .int 0, .int (-1 : Int32), .int 0, .ref q_7, .null, .null, .null, .null, .int 0, .int 0, .int 0, .int 0, .int 0, .int 0, .int 0, .int 0, .int 0, .int 0, .int 0, .int 0, .int 0, .int 0, .int 0, .int 0, .int 0, .int 0, .int 0])), (q_1, .inl (c_2, 91, .inr (.inl (tbL nmL 91)))), (q_3, .inl (c_4, 91, .inl (tbI fmL 91))), (q_5, .inl (c_6, 91, .inl (tbI cdL 91))), (q_7, .inl (c_8, 40, .inl (fun _ => (0 : Int32)))), (q_9, .inl (c_10, 1024, .inl (fun _ => (0 : Int32))))] := hD
  have hK : va_K D vwCl [(c_2, .long), (c_4, .int), (c_6, .int), (c_8, .int), (c_10, .int)] s := hK
  refine va_putF (D := D) (ci := 6) (v := .ref q_9) (ty := (.array .int)) (C := "WindowMachineModel") (T := T_D) (N := 31) hx hb ht zi_D ty_D tyok_D nm_D hown hK hP hD hS 0 rfl rfl 8 (by decide) (ht _ zw_862) (fun _ h9 => h9) rfl hin rfl (by decide +kernel) rfl rfl (Nat.le_of_ble_eq_true rfl) d_D_init_1731 (fun H locs hP hD hS => ?_)
  have hP : va_P D vwCl [(a0, .inr (6, [.ref q_1, .ref q_3, .ref q_5, .int 0, .int 0, .int (-1 : Int32), .int 0, .ref q_7, .ref q_9, .null, .null, .null, .int 0, .int 0, .int 0, .int 0, .int 0, .int 0, .int 0, .int 0, .int 0, .int 0, .int 0, .int 0, .int 0, .int 0, .int 0, .int 0, .int 0, .int 0, .int 0])), (q_1, .inl (c_2, 91, .inr (.inl (tbL nmL 91)))), (q_3, .inl (c_4, 91, .inl (tbI fmL 91))), (q_5, .inl (c_6, 91, .inl (tbI cdL 91))), (q_7, .inl (c_8, 40, .inl (fun _ => (0 : Int32)))), (q_9, .inl (c_10, 1024, .inl (fun _ => (0 : Int32))))] H := hP
  have hD : va_D A [(a0, .inr (6, [.ref q_1, .ref q_3, .ref q_5, .int 0, .int 0, .int (-1 : Int32), .int 0, .ref q_7, .ref q_9, .null, .null, .null, .int 0, .int 0, .int 0, .int 0, .int 0, .int 0, .int 0, .int 0, .int 0, .int 0, .int 0, .int 0, .int 0, .int 0, .int 0, .int 0, .int 0, .int 0, .int 0])), (q_1, .inl (c_2, 91, .inr (.inl (tbL nmL 91)))), (q_3, .inl (c_4, 91, .inl (tbI fmL 91))), (q_5, .inl (c_6, 91, .inl (tbI cdL 91))), (q_7, .inl (c_8, 40, .inl (fun _ => (0 : Int32)))), (q_9, .inl (c_10, 1024, .inl (fun _ => (0 : Int32))))] := hD
  refine lv_aload_n hx hb d_D_init_1734 rfl (lv_at hl 0 rfl) ?_
  refine lv_bipush (v := (8 : Int32)) hx hb d_D_init_1735 (by decide) ?_
  refine va_newa (D := D) hx hb (ht _ zw_37) (ty := .int) rfl hK hP hD hS hA (N' := 8) (a0 := (8, .inl (fun _ => (0 : Int32)))) (fun _ => rfl) (by decide) rfl (by decide) (Nat.le_of_ble_eq_true rfl) (Nat.le_of_ble_eq_true rfl) d_D_init_1737 (fun q_11 c_12 H hK hP hD hS => ?_)
  have hP : va_P D vwCl [(a0, .inr (6, [.ref q_1, .ref q_3, .ref q_5, .int 0, .int 0, .int (-1 : Int32), .int 0, .ref q_7, .ref q_9, .null, .null, .null, .int 0, .int 0, .int 0, .int 0, .int 0, .int 0, .int 0, .int 0, .int 0, .int 0, .int 0, .int 0, .int 0, .int 0, .int 0, .int 0, .int 0, .int 0, .int 0])), (q_1, .inl (c_2, 91, .inr (.inl (tbL nmL 91)))), (q_3, .inl (c_4, 91, .inl (tbI fmL 91))), (q_5, .inl (c_6, 91, .inl (tbI cdL 91))), (q_7, .inl (c_8, 40, .inl (fun _ => (0 : Int32)))), (q_9, .inl (c_10, 1024, .inl (fun _ => (0 : Int32)))), (q_11, .inl (c_12, 8, .inl (fun _ => (0 : Int32))))] H := hP
  have hD : va_D A [(a0, .inr (6, [.ref q_1, .ref q_3, .ref q_5, .int 0, .int 0, .int (-1 : Int32), .int 0, .ref q_7, .ref q_9, .null, .null, .null, .int 0, .int 0, .int 0, .int 0, .int 0, .int 0, .int 0, .int 0, .int 0, .int 0, .int 0, .int 0, .int 0, .int 0, .int 0, .int 0, .int 0, .int 0, .int 0])), (q_1, .inl (c_2, 91, .inr (.inl (tbL nmL 91)))), (q_3, .inl (c_4, 91, .inl (tbI fmL 91))), (q_5, .inl (c_6, 91, .inl (tbI cdL 91))), (q_7, .inl (c_8, 40, .inl (fun _ => (0 : Int32)))), (q_9, .inl (c_10, 1024, .inl (fun _ => (0 : Int32)))), (q_11, .inl (c_12, 8, .inl (fun _ => (0 : Int32))))] := hD
  have hK : va_K D vwCl [(c_2, .long), (c_4, .int), (c_6, .int), (c_8, .int), (c_10, .int), (c_12, .int)] s := hK
  refine va_putF (D := D) (ci := 6) (v := .ref q_11) (ty := (.array .int)) (C := "WindowMachineModel") (T := T_D) (N := 31) hx hb ht zi_D ty_D tyok_D nm_D hown hK hP hD hS 0 rfl rfl 9 (by decide) (ht _ zw_863) (fun _ h9 => h9) rfl hin rfl (by decide +kernel) rfl rfl (Nat.le_of_ble_eq_true rfl) d_D_init_1739 (fun H locs hP hD hS => ?_)
  have hP : va_P D vwCl [(a0, .inr (6, [.ref q_1, .ref q_3, .ref q_5, .int 0, .int 0, .int (-1 : Int32), .int 0, .ref q_7, .ref q_9, .ref q_11, .null, .null, .int 0, .int 0, .int 0, .int 0, .int 0, .int 0, .int 0, .int 0, .int 0, .int 0, .int 0, .int 0, .int 0, .int 0, .int 0, .int 0, .int 0, .int 0, .int 0])), (q_1, .inl (c_2, 91, .inr (.inl (tbL nmL 91)))), (q_3, .inl (c_4, 91, .inl (tbI fmL 91))), (q_5, .inl (c_6, 91, .inl (tbI cdL 91))), (q_7, .inl (c_8, 40, .inl (fun _ => (0 : Int32)))), (q_9, .inl (c_10, 1024, .inl (fun _ => (0 : Int32)))), (q_11, .inl (c_12, 8, .inl (fun _ => (0 : Int32))))] H := hP
  have hD : va_D A [(a0, .inr (6, [.ref q_1, .ref q_3, .ref q_5, .int 0, .int 0, .int (-1 : Int32), .int 0, .ref q_7, .ref q_9, .ref q_11, .null, .null, .int 0, .int 0, .int 0, .int 0, .int 0, .int 0, .int 0, .int 0, .int 0, .int 0, .int 0, .int 0, .int 0, .int 0, .int 0, .int 0, .int 0, .int 0, .int 0])), (q_1, .inl (c_2, 91, .inr (.inl (tbL nmL 91)))), (q_3, .inl (c_4, 91, .inl (tbI fmL 91))), (q_5, .inl (c_6, 91, .inl (tbI cdL 91))), (q_7, .inl (c_8, 40, .inl (fun _ => (0 : Int32)))), (q_9, .inl (c_10, 1024, .inl (fun _ => (0 : Int32)))), (q_11, .inl (c_12, 8, .inl (fun _ => (0 : Int32))))] := hD
  refine lv_aload_n hx hb d_D_init_1742 rfl (lv_at hl 0 rfl) ?_
  refine lv_bipush (v := (32 : Int32)) hx hb d_D_init_1743 (by decide) ?_
  refine va_newa (D := D) hx hb (ht _ zw_37) (ty := .int) rfl hK hP hD hS hA (N' := 32) (a0 := (32, .inl (fun _ => (0 : Int32)))) (fun _ => rfl) (by decide) rfl (by decide) (Nat.le_of_ble_eq_true rfl) (Nat.le_of_ble_eq_true rfl) d_D_init_1745 (fun q_13 c_14 H hK hP hD hS => ?_)
  have hP : va_P D vwCl [(a0, .inr (6, [.ref q_1, .ref q_3, .ref q_5, .int 0, .int 0, .int (-1 : Int32), .int 0, .ref q_7, .ref q_9, .ref q_11, .null, .null, .int 0, .int 0, .int 0, .int 0, .int 0, .int 0, .int 0, .int 0, .int 0, .int 0, .int 0, .int 0, .int 0, .int 0, .int 0, .int 0, .int 0, .int 0, .int 0])), (q_1, .inl (c_2, 91, .inr (.inl (tbL nmL 91)))), (q_3, .inl (c_4, 91, .inl (tbI fmL 91))), (q_5, .inl (c_6, 91, .inl (tbI cdL 91))), (q_7, .inl (c_8, 40, .inl (fun _ => (0 : Int32)))), (q_9, .inl (c_10, 1024, .inl (fun _ => (0 : Int32)))), (q_11, .inl (c_12, 8, .inl (fun _ => (0 : Int32)))), (q_13, .inl (c_14, 32, .inl (fun _ => (0 : Int32))))] H := hP
  have hD : va_D A [(a0, .inr (6, [.ref q_1, .ref q_3, .ref q_5, .int 0, .int 0, .int (-1 : Int32), .int 0, .ref q_7, .ref q_9, .ref q_11, .null, .null, .int 0, .int 0, .int 0, .int 0, .int 0, .int 0, .int 0, .int 0, .int 0, .int 0, .int 0, .int 0, .int 0, .int 0, .int 0, .int 0, .int 0, .int 0, .int 0])), (q_1, .inl (c_2, 91, .inr (.inl (tbL nmL 91)))), (q_3, .inl (c_4, 91, .inl (tbI fmL 91))), (q_5, .inl (c_6, 91, .inl (tbI cdL 91))), (q_7, .inl (c_8, 40, .inl (fun _ => (0 : Int32)))), (q_9, .inl (c_10, 1024, .inl (fun _ => (0 : Int32)))), (q_11, .inl (c_12, 8, .inl (fun _ => (0 : Int32)))), (q_13, .inl (c_14, 32, .inl (fun _ => (0 : Int32))))] := hD
  have hK : va_K D vwCl [(c_2, .long), (c_4, .int), (c_6, .int), (c_8, .int), (c_10, .int), (c_12, .int), (c_14, .int)] s := hK
  refine va_putF (D := D) (ci := 6) (v := .ref q_13) (ty := (.array .int)) (C := "WindowMachineModel") (T := T_D) (N := 31) hx hb ht zi_D ty_D tyok_D nm_D hown hK hP hD hS 0 rfl rfl 10 (by decide) (ht _ zw_864) (fun _ h9 => h9) rfl hin rfl (by decide +kernel) rfl rfl (Nat.le_of_ble_eq_true rfl) d_D_init_1747 (fun H locs hP hD hS => ?_)
  have hP : va_P D vwCl [(a0, .inr (6, [.ref q_1, .ref q_3, .ref q_5, .int 0, .int 0, .int (-1 : Int32), .int 0, .ref q_7, .ref q_9, .ref q_11, .ref q_13, .null, .int 0, .int 0, .int 0, .int 0, .int 0, .int 0, .int 0, .int 0, .int 0, .int 0, .int 0, .int 0, .int 0, .int 0, .int 0, .int 0, .int 0, .int 0, .int 0])), (q_1, .inl (c_2, 91, .inr (.inl (tbL nmL 91)))), (q_3, .inl (c_4, 91, .inl (tbI fmL 91))), (q_5, .inl (c_6, 91, .inl (tbI cdL 91))), (q_7, .inl (c_8, 40, .inl (fun _ => (0 : Int32)))), (q_9, .inl (c_10, 1024, .inl (fun _ => (0 : Int32)))), (q_11, .inl (c_12, 8, .inl (fun _ => (0 : Int32)))), (q_13, .inl (c_14, 32, .inl (fun _ => (0 : Int32))))] H := hP
  have hD : va_D A [(a0, .inr (6, [.ref q_1, .ref q_3, .ref q_5, .int 0, .int 0, .int (-1 : Int32), .int 0, .ref q_7, .ref q_9, .ref q_11, .ref q_13, .null, .int 0, .int 0, .int 0, .int 0, .int 0, .int 0, .int 0, .int 0, .int 0, .int 0, .int 0, .int 0, .int 0, .int 0, .int 0, .int 0, .int 0, .int 0, .int 0])), (q_1, .inl (c_2, 91, .inr (.inl (tbL nmL 91)))), (q_3, .inl (c_4, 91, .inl (tbI fmL 91))), (q_5, .inl (c_6, 91, .inl (tbI cdL 91))), (q_7, .inl (c_8, 40, .inl (fun _ => (0 : Int32)))), (q_9, .inl (c_10, 1024, .inl (fun _ => (0 : Int32)))), (q_11, .inl (c_12, 8, .inl (fun _ => (0 : Int32)))), (q_13, .inl (c_14, 32, .inl (fun _ => (0 : Int32))))] := hD
  refine lv_aload_n hx hb d_D_init_1750 rfl (lv_at hl 0 rfl) ?_
  refine lv_bipush (v := (32 : Int32)) hx hb d_D_init_1751 (by decide) ?_
  refine va_newa (D := D) hx hb (ht _ zw_37) (ty := .int) rfl hK hP hD hS hA (N' := 32) (a0 := (32, .inl (fun _ => (0 : Int32)))) (fun _ => rfl) (by decide) rfl (by decide) (Nat.le_of_ble_eq_true rfl) (Nat.le_of_ble_eq_true rfl) d_D_init_1753 (fun q_15 c_16 H hK hP hD hS => ?_)
  have hP : va_P D vwCl [(a0, .inr (6, [.ref q_1, .ref q_3, .ref q_5, .int 0, .int 0, .int (-1 : Int32), .int 0, .ref q_7, .ref q_9, .ref q_11, .ref q_13, .null, .int 0, .int 0, .int 0, .int 0, .int 0, .int 0, .int 0, .int 0, .int 0, .int 0, .int 0, .int 0, .int 0, .int 0, .int 0, .int 0, .int 0, .int 0, .int 0])), (q_1, .inl (c_2, 91, .inr (.inl (tbL nmL 91)))), (q_3, .inl (c_4, 91, .inl (tbI fmL 91))), (q_5, .inl (c_6, 91, .inl (tbI cdL 91))), (q_7, .inl (c_8, 40, .inl (fun _ => (0 : Int32)))), (q_9, .inl (c_10, 1024, .inl (fun _ => (0 : Int32)))), (q_11, .inl (c_12, 8, .inl (fun _ => (0 : Int32)))), (q_13, .inl (c_14, 32, .inl (fun _ => (0 : Int32)))), (q_15, .inl (c_16, 32, .inl (fun _ => (0 : Int32))))] H := hP
  have hD : va_D A [(a0, .inr (6, [.ref q_1, .ref q_3, .ref q_5, .int 0, .int 0, .int (-1 : Int32), .int 0, .ref q_7, .ref q_9, .ref q_11, .ref q_13, .null, .int 0, .int 0, .int 0, .int 0, .int 0, .int 0, .int 0, .int 0, .int 0, .int 0, .int 0, .int 0, .int 0, .int 0, .int 0, .int 0, .int 0, .int 0, .int 0])), (q_1, .inl (c_2, 91, .inr (.inl (tbL nmL 91)))), (q_3, .inl (c_4, 91, .inl (tbI fmL 91))), (q_5, .inl (c_6, 91, .inl (tbI cdL 91))), (q_7, .inl (c_8, 40, .inl (fun _ => (0 : Int32)))), (q_9, .inl (c_10, 1024, .inl (fun _ => (0 : Int32)))), (q_11, .inl (c_12, 8, .inl (fun _ => (0 : Int32)))), (q_13, .inl (c_14, 32, .inl (fun _ => (0 : Int32)))), (q_15, .inl (c_16, 32, .inl (fun _ => (0 : Int32))))] := hD
  have hK : va_K D vwCl [(c_2, .long), (c_4, .int), (c_6, .int), (c_8, .int), (c_10, .int), (c_12, .int), (c_14, .int), (c_16, .int)] s := hK
  refine va_putF (D := D) (ci := 6) (v := .ref q_15) (ty := (.array .int)) (C := "WindowMachineModel") (T := T_D) (N := 31) hx hb ht zi_D ty_D tyok_D nm_D hown hK hP hD hS 0 rfl rfl 11 (by decide) (ht _ zw_865) (fun _ h9 => h9) rfl hin rfl (by decide +kernel) rfl rfl (Nat.le_of_ble_eq_true rfl) d_D_init_1755 (fun H locs hP hD hS => ?_)
  have hP : va_P D vwCl [(a0, .inr (6, [.ref q_1, .ref q_3, .ref q_5, .int 0, .int 0, .int (-1 : Int32), .int 0, .ref q_7, .ref q_9, .ref q_11, .ref q_13, .ref q_15, .int 0, .int 0, .int 0, .int 0, .int 0, .int 0, .int 0, .int 0, .int 0, .int 0, .int 0, .int 0, .int 0, .int 0, .int 0, .int 0, .int 0, .int 0, .int 0])), (q_1, .inl (c_2, 91, .inr (.inl (tbL nmL 91)))), (q_3, .inl (c_4, 91, .inl (tbI fmL 91))), (q_5, .inl (c_6, 91, .inl (tbI cdL 91))), (q_7, .inl (c_8, 40, .inl (fun _ => (0 : Int32)))), (q_9, .inl (c_10, 1024, .inl (fun _ => (0 : Int32)))), (q_11, .inl (c_12, 8, .inl (fun _ => (0 : Int32)))), (q_13, .inl (c_14, 32, .inl (fun _ => (0 : Int32)))), (q_15, .inl (c_16, 32, .inl (fun _ => (0 : Int32))))] H := hP
  have hD : va_D A [(a0, .inr (6, [.ref q_1, .ref q_3, .ref q_5, .int 0, .int 0, .int (-1 : Int32), .int 0, .ref q_7, .ref q_9, .ref q_11, .ref q_13, .ref q_15, .int 0, .int 0, .int 0, .int 0, .int 0, .int 0, .int 0, .int 0, .int 0, .int 0, .int 0, .int 0, .int 0, .int 0, .int 0, .int 0, .int 0, .int 0, .int 0])), (q_1, .inl (c_2, 91, .inr (.inl (tbL nmL 91)))), (q_3, .inl (c_4, 91, .inl (tbI fmL 91))), (q_5, .inl (c_6, 91, .inl (tbI cdL 91))), (q_7, .inl (c_8, 40, .inl (fun _ => (0 : Int32)))), (q_9, .inl (c_10, 1024, .inl (fun _ => (0 : Int32)))), (q_11, .inl (c_12, 8, .inl (fun _ => (0 : Int32)))), (q_13, .inl (c_14, 32, .inl (fun _ => (0 : Int32)))), (q_15, .inl (c_16, 32, .inl (fun _ => (0 : Int32))))] := hD
  refine lv_aload_n hx hb d_D_init_1758 rfl (lv_at hl 0 rfl) ?_
  refine lv_iconst (v := (-1 : Int32)) hx hb d_D_init_1759 (by decide) ?_
  refine va_put (D := D) (ci := 6) (v := .int (-1 : Int32)) (ty := .int) (C := "WindowMachineModel") (T := T_D) (N := 31) hx hb ht zi_D ty_D tyok_D nm_D hown hK hP hD hS 0 rfl rfl 18 (by decide) (ht _ zw_872) (fun _ h9 => h9) rfl (by decide +kernel) rfl rfl (Nat.le_of_ble_eq_true rfl) d_D_init_1760 (fun H locs hP hD hS => ?_)
  have hP : va_P D vwCl [(a0, .inr (6, [.ref q_1, .ref q_3, .ref q_5, .int 0, .int 0, .int (-1 : Int32), .int 0, .ref q_7, .ref q_9, .ref q_11, .ref q_13, .ref q_15, .int 0, .int 0, .int 0, .int 0, .int 0, .int 0, .int (-1 : Int32), .int 0, .int 0, .int 0, .int 0, .int 0, .int 0, .int 0, .int 0, .int 0, .int 0, .int 0, .int 0])), (q_1, .inl (c_2, 91, .inr (.inl (tbL nmL 91)))), (q_3, .inl (c_4, 91, .inl (tbI fmL 91))), (q_5, .inl (c_6, 91, .inl (tbI cdL 91))), (q_7, .inl (c_8, 40, .inl (fun _ => (0 : Int32)))), (q_9, .inl (c_10, 1024, .inl (fun _ => (0 : Int32)))), (q_11, .inl (c_12, 8, .inl (fun _ => (0 : Int32)))), (q_13, .inl (c_14, 32, .inl (fun _ => (0 : Int32)))), (q_15, .inl (c_16, 32, .inl (fun _ => (0 : Int32))))] H := hP
  have hD : va_D A [(a0, .inr (6, [.ref q_1, .ref q_3, .ref q_5, .int 0, .int 0, .int (-1 : Int32), .int 0, .ref q_7, .ref q_9, .ref q_11, .ref q_13, .ref q_15, .int 0, .int 0, .int 0, .int 0, .int 0, .int 0, .int (-1 : Int32), .int 0, .int 0, .int 0, .int 0, .int 0, .int 0, .int 0, .int 0, .int 0, .int 0, .int 0, .int 0])), (q_1, .inl (c_2, 91, .inr (.inl (tbL nmL 91)))), (q_3, .inl (c_4, 91, .inl (tbI fmL 91))), (q_5, .inl (c_6, 91, .inl (tbI cdL 91))), (q_7, .inl (c_8, 40, .inl (fun _ => (0 : Int32)))), (q_9, .inl (c_10, 1024, .inl (fun _ => (0 : Int32)))), (q_11, .inl (c_12, 8, .inl (fun _ => (0 : Int32)))), (q_13, .inl (c_14, 32, .inl (fun _ => (0 : Int32)))), (q_15, .inl (c_16, 32, .inl (fun _ => (0 : Int32))))] := hD
  refine lv_aload_n hx hb d_D_init_1763 rfl (lv_at hl 0 rfl) ?_
  refine lv_iconst (v := (0 : Int32)) hx hb d_D_init_1764 (by decide) ?_
  refine zc_v (w2 := fun u9 => wD (fun i9 => [a0, q_1, q_3, q_5, q_7, q_9, q_11, q_13, q_15].getD (i9 - 20) 0) (fun i9 => [c_2, c_4, c_6, c_8, c_10, c_12, c_14, c_16].getD (i9 - 21) c_2) u9) (va_runV (As := [.int (0 : Int32)]) (rest := []) ⟨hx, hb, hml, hown, ht⟩ (mt_D_reset l D  (fun i9 => [a0, q_1, q_3, q_5, q_7, q_9, q_11, q_13, q_15].getD (i9 - 20) 0) (fun i9 => [c_2, c_4, c_6, c_8, c_10, c_12, c_14, c_16].getD (i9 - 21) c_2) H.size stD9 (0 : Int32)) (cwV 1 ht (zgV zw_850 zw_852 zs_52 zw_7 zw_853) rfl rfl rfl kd_D_reset ⟨Nat.le_of_ble_eq_true rfl, Nat.le_of_ble_eq_true rfl⟩) ⟨zw_blind zw_tt, va_recv (hK.sub (tys' := [((fun i9 => [c_2, c_4, c_6, c_8, c_10, c_12, c_14, c_16].getD (i9 - 21) c_2) 21, .long), ((fun i9 => [c_2, c_4, c_6, c_8, c_10, c_12, c_14, c_16].getD (i9 - 21) c_2) 22, .int), ((fun i9 => [c_2, c_4, c_6, c_8, c_10, c_12, c_14, c_16].getD (i9 - 21) c_2) 23, .int), ((fun i9 => [c_2, c_4, c_6, c_8, c_10, c_12, c_14, c_16].getD (i9 - 21) c_2) 24, .int), ((fun i9 => [c_2, c_4, c_6, c_8, c_10, c_12, c_14, c_16].getD (i9 - 21) c_2) 25, .int), ((fun i9 => [c_2, c_4, c_6, c_8, c_10, c_12, c_14, c_16].getD (i9 - 21) c_2) 26, .int), ((fun i9 => [c_2, c_4, c_6, c_8, c_10, c_12, c_14, c_16].getD (i9 - 21) c_2) 27, .int), ((fun i9 => [c_2, c_4, c_6, c_8, c_10, c_12, c_14, c_16].getD (i9 - 21) c_2) 28, .int)]) [0, 1, 2, 3, 4, 5, 6, 7] rfl) (hP.sub (ws' := wD (fun i9 => [a0, q_1, q_3, q_5, q_7, q_9, q_11, q_13, q_15].getD (i9 - 20) 0) (fun i9 => [c_2, c_4, c_6, c_8, c_10, c_12, c_14, c_16].getD (i9 - 21) c_2) stD9) [0, 1, 2, 3, 4, 5, 6, 7, 8] rfl) (ci := 6) (q0 := 0) rfl rfl, zw_go (hP.sub (ws' := wD (fun i9 => [a0, q_1, q_3, q_5, q_7, q_9, q_11, q_13, q_15].getD (i9 - 20) 0) (fun i9 => [c_2, c_4, c_6, c_8, c_10, c_12, c_14, c_16].getD (i9 - 21) c_2) stD9) [0, 1, 2, 3, 4, 5, 6, 7, 8] rfl) (hD.sub (ws' := wD (fun i9 => [a0, q_1, q_3, q_5, q_7, q_9, q_11, q_13, q_15].getD (i9 - 20) 0) (fun i9 => [c_2, c_4, c_6, c_8, c_10, c_12, c_14, c_16].getD (i9 - 21) c_2) stD9) [0, 1, 2, 3, 4, 5, 6, 7, 8] (by decide) rfl) (hK.sub (tys' := [((fun i9 => [c_2, c_4, c_6, c_8, c_10, c_12, c_14, c_16].getD (i9 - 21) c_2) 21, .long), ((fun i9 => [c_2, c_4, c_6, c_8, c_10, c_12, c_14, c_16].getD (i9 - 21) c_2) 22, .int), ((fun i9 => [c_2, c_4, c_6, c_8, c_10, c_12, c_14, c_16].getD (i9 - 21) c_2) 23, .int), ((fun i9 => [c_2, c_4, c_6, c_8, c_10, c_12, c_14, c_16].getD (i9 - 21) c_2) 24, .int), ((fun i9 => [c_2, c_4, c_6, c_8, c_10, c_12, c_14, c_16].getD (i9 - 21) c_2) 25, .int), ((fun i9 => [c_2, c_4, c_6, c_8, c_10, c_12, c_14, c_16].getD (i9 - 21) c_2) 26, .int), ((fun i9 => [c_2, c_4, c_6, c_8, c_10, c_12, c_14, c_16].getD (i9 - 21) c_2) 27, .int), ((fun i9 => [c_2, c_4, c_6, c_8, c_10, c_12, c_14, c_16].getD (i9 - 21) c_2) 28, .int)]) [0, 1, 2, 3, 4, 5, 6, 7] rfl) (fun _ _ _ => trivial)⟩ rfl rfl hl.1 rfl (lv_room (Nat.le_of_ble_eq_true rfl)) d_D_init_1765 ⟨Nat.le_of_ble_eq_true rfl, Nat.le_of_ble_eq_true rfl⟩) hP hD hS hA [0, 1, 2, 3, 4, 5, 6, 7, 8] [] [0, 1, 2, 3, 4, 5, 6, 7, 8] rfl rfl (by decide) (by decide) (by decide) (fun _ => rfl) (fun u9 H locs hw hP hD hS => ?_)
  subst hw
  exact zn_v (u := (fun i9 => [a0, q_1, q_3, q_5, q_7, q_9, q_11, q_13, q_15].getD (i9 - 20) 0, fun i9 => [c_2, c_4, c_6, c_8, c_10, c_12, c_14, c_16].getD (i9 - 21) c_2)) hx hb hr hlocks hS hP hD hK rfl d_D_init_1768
