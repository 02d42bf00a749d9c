theorem d_D_init_0 : decode c_D_init 0 = .ok (.aload_n 0, 1) := by decide +kernel
theorem d_D_init_1 : decode c_D_init 1 = .ok (.invokespecial 1, 3) := by decide +kernel
theorem d_D_init_4 : decode c_D_init 4 = .ok (.aload_n 0, 1) := by decide +kernel
theorem d_D_init_5 : decode c_D_init 5 = .ok (.bipush 91, 2) := by decide +kernel
theorem d_D_init_7 : decode c_D_init 7 = .ok (.newarray .long, 2) := by decide +kernel
theorem d_D_init_9 : decode c_D_init 9 = .ok (.dup, 1) := by decide +kernel
theorem d_D_init_10 : decode c_D_init 10 = .ok (.iconst 0, 1) := by decide +kernel
theorem d_D_init_11 : decode c_D_init 11 = .ok (.ldc2_w 7, 3) := by decide +kernel
theorem d_D_init_14 : decode c_D_init 14 = .ok (.lastore, 1) := by decide +kernel
theorem d_D_init_15 : decode c_D_init 15 = .ok (.dup, 1) := by decide +kernel
theorem d_D_init_16 : decode c_D_init 16 = .ok (.iconst 1, 1) := by decide +kernel
theorem d_D_init_17 : decode c_D_init 17 = .ok (.ldc2_w 9, 3) := by decide +kernel
theorem d_D_init_20 : decode c_D_init 20 = .ok (.lastore, 1) := by decide +kernel
theorem d_D_init_21 : decode c_D_init 21 = .ok (.dup, 1) := by decide +kernel
theorem d_D_init_22 : decode c_D_init 22 = .ok (.iconst 2, 1) := by decide +kernel
theorem d_D_init_23 : decode c_D_init 23 = .ok (.ldc2_w 11, 3) := by decide +kernel
theorem d_D_init_26 : decode c_D_init 26 = .ok (.lastore, 1) := by decide +kernel
theorem d_D_init_27 : decode c_D_init 27 = .ok (.dup, 1) := by decide +kernel
theorem d_D_init_28 : decode c_D_init 28 = .ok (.iconst 3, 1) := by decide +kernel
theorem d_D_init_29 : decode c_D_init 29 = .ok (.ldc2_w 13, 3) := by decide +kernel
theorem d_D_init_32 : decode c_D_init 32 = .ok (.lastore, 1) := by decide +kernel
theorem d_D_init_33 : decode c_D_init 33 = .ok (.dup, 1) := by decide +kernel
theorem d_D_init_34 : decode c_D_init 34 = .ok (.iconst 4, 1) := by decide +kernel
theorem d_D_init_35 : decode c_D_init 35 = .ok (.ldc2_w 15, 3) := by decide +kernel
theorem d_D_init_38 : decode c_D_init 38 = .ok (.lastore, 1) := by decide +kernel
theorem d_D_init_39 : decode c_D_init 39 = .ok (.dup, 1) := by decide +kernel
theorem d_D_init_40 : decode c_D_init 40 = .ok (.iconst 5, 1) := by decide +kernel
theorem d_D_init_41 : decode c_D_init 41 = .ok (.ldc2_w 17, 3) := by decide +kernel
theorem d_D_init_44 : decode c_D_init 44 = .ok (.lastore, 1) := by decide +kernel
theorem d_D_init_45 : decode c_D_init 45 = .ok (.dup, 1) := by decide +kernel
theorem d_D_init_46 : decode c_D_init 46 = .ok (.bipush 6, 2) := by decide +kernel
theorem d_D_init_48 : decode c_D_init 48 = .ok (.ldc2_w 19, 3) := by decide +kernel
theorem d_D_init_51 : decode c_D_init 51 = .ok (.lastore, 1) := by decide +kernel
theorem d_D_init_52 : decode c_D_init 52 = .ok (.dup, 1) := by decide +kernel
theorem d_D_init_53 : decode c_D_init 53 = .ok (.bipush 7, 2) := by decide +kernel
theorem d_D_init_55 : decode c_D_init 55 = .ok (.ldc2_w 21, 3) := by decide +kernel
theorem d_D_init_58 : decode c_D_init 58 = .ok (.lastore, 1) := by decide +kernel
theorem d_D_init_59 : decode c_D_init 59 = .ok (.dup, 1) := by decide +kernel
theorem d_D_init_60 : decode c_D_init 60 = .ok (.bipush 8, 2) := by decide +kernel
theorem d_D_init_62 : decode c_D_init 62 = .ok (.ldc2_w 23, 3) := by decide +kernel
theorem d_D_init_65 : decode c_D_init 65 = .ok (.lastore, 1) := by decide +kernel
theorem d_D_init_66 : decode c_D_init 66 = .ok (.dup, 1) := by decide +kernel
theorem d_D_init_67 : decode c_D_init 67 = .ok (.bipush 9, 2) := by decide +kernel
theorem d_D_init_69 : decode c_D_init 69 = .ok (.ldc2_w 25, 3) := by decide +kernel
theorem d_D_init_72 : decode c_D_init 72 = .ok (.lastore, 1) := by decide +kernel
theorem d_D_init_73 : decode c_D_init 73 = .ok (.dup, 1) := by decide +kernel
theorem d_D_init_74 : decode c_D_init 74 = .ok (.bipush 10, 2) := by decide +kernel
theorem d_D_init_76 : decode c_D_init 76 = .ok (.ldc2_w 27, 3) := by decide +kernel
theorem d_D_init_79 : decode c_D_init 79 = .ok (.lastore, 1) := by decide +kernel
theorem d_D_init_80 : decode c_D_init 80 = .ok (.dup, 1) := by decide +kernel
theorem d_D_init_81 : decode c_D_init 81 = .ok (.bipush 11, 2) := by decide +kernel
theorem d_D_init_83 : decode c_D_init 83 = .ok (.ldc2_w 29, 3) := by decide +kernel
theorem d_D_init_86 : decode c_D_init 86 = .ok (.lastore, 1) := by decide +kernel
theorem d_D_init_87 : decode c_D_init 87 = .ok (.dup, 1) := by decide +kernel
theorem d_D_init_88 : decode c_D_init 88 = .ok (.bipush 12, 2) := by decide +kernel
theorem d_D_init_90 : decode c_D_init 90 = .ok (.ldc2_w 31, 3) := by decide +kernel
theorem d_D_init_93 : decode c_D_init 93 = .ok (.lastore, 1) := by decide +kernel
theorem d_D_init_94 : decode c_D_init 94 = .ok (.dup, 1) := by decide +kernel
theorem d_D_init_95 : decode c_D_init 95 = .ok (.bipush 13, 2) := by decide +kernel
theorem d_D_init_97 : decode c_D_init 97 = .ok (.ldc2_w 33, 3) := by decide +kernel
theorem d_D_init_100 : decode c_D_init 100 = .ok (.lastore, 1) := by decide +kernel
theorem d_D_init_101 : decode c_D_init 101 = .ok (.dup, 1) := by decide +kernel
theorem d_D_init_102 : decode c_D_init 102 = .ok (.bipush 14, 2) := by decide +kernel
theorem d_D_init_104 : decode c_D_init 104 = .ok (.ldc2_w 35, 3) := by decide +kernel
theorem d_D_init_107 : decode c_D_init 107 = .ok (.lastore, 1) := by decide +kernel
theorem d_D_init_108 : decode c_D_init 108 = .ok (.dup, 1) := by decide +kernel
theorem d_D_init_109 : decode c_D_init 109 = .ok (.bipush 15, 2) := by decide +kernel
theorem d_D_init_111 : decode c_D_init 111 = .ok (.ldc2_w 37, 3) := by decide +kernel
theorem d_D_init_114 : decode c_D_init 114 = .ok (.lastore, 1) := by decide +kernel
theorem d_D_init_115 : decode c_D_init 115 = .ok (.dup, 1) := by decide +kernel
theorem d_D_init_116 : decode c_D_init 116 = .ok (.bipush 16, 2) := by decide +kernel
theorem d_D_init_118 : decode c_D_init 118 = .ok (.ldc2_w 39, 3) := by decide +kernel
theorem d_D_init_121 : decode c_D_init 121 = .ok (.lastore, 1) := by decide +kernel
theorem d_D_init_122 : decode c_D_init 122 = .ok (.dup, 1) := by decide +kernel
theorem d_D_init_123 : decode c_D_init 123 = .ok (.bipush 17, 2) := by decide +kernel
theorem d_D_init_125 : decode c_D_init 125 = .ok (.ldc2_w 41, 3) := by decide +kernel
theorem d_D_init_128 : decode c_D_init 128 = .ok (.lastore, 1) := by decide +kernel
theorem d_D_init_129 : decode c_D_init 129 = .ok (.dup, 1) := by decide +kernel
theorem d_D_init_130 : decode c_D_init 130 = .ok (.bipush 18, 2) := by decide +kernel
theorem d_D_init_132 : decode c_D_init 132 = .ok (.ldc2_w 43, 3) := by decide +kernel
theorem d_D_init_135 : decode c_D_init 135 = .ok (.lastore, 1) := by decide +kernel
theorem d_D_init_136 : decode c_D_init 136 = .ok (.dup, 1) := by decide +kernel
theorem d_D_init_137 : decode c_D_init 137 = .ok (.bipush 19, 2) := by decide +kernel
theorem d_D_init_139 : decode c_D_init 139 = .ok (.ldc2_w 45, 3) := by decide +kernel
theorem d_D_init_142 : decode c_D_init 142 = .ok (.lastore, 1) := by decide +kernel
theorem d_D_init_143 : decode c_D_init 143 = .ok (.dup, 1) := by decide +kernel
theorem d_D_init_144 : decode c_D_init 144 = .ok (.bipush 20, 2) := by decide +kernel
theorem d_D_init_146 : decode c_D_init 146 = .ok (.ldc2_w 47, 3) := by decide +kernel
theorem d_D_init_149 : decode c_D_init 149 = .ok (.lastore, 1) := by decide +kernel
theorem d_D_init_150 : decode c_D_init 150 = .ok (.dup, 1) := by decide +kernel
theorem d_D_init_151 : decode c_D_init 151 = .ok (.bipush 21, 2) := by decide +kernel
theorem d_D_init_153 : decode c_D_init 153 = .ok (.ldc2_w 49, 3) := by decide +kernel
theorem d_D_init_156 : decode c_D_init 156 = .ok (.lastore, 1) := by decide +kernel
theorem d_D_init_157 : decode c_D_init 157 = .ok (.dup, 1) := by decide +kernel
theorem d_D_init_158 : decode c_D_init 158 = .ok (.bipush 22, 2) := by decide +kernel
theorem d_D_init_160 : decode c_D_init 160 = .ok (.ldc2_w 51, 3) := by decide +kernel
theorem d_D_init_163 : decode c_D_init 163 = .ok (.lastore, 1) := by decide +kernel
theorem d_D_init_164 : decode c_D_init 164 = .ok (.dup, 1) := by decide +kernel
theorem d_D_init_165 : decode c_D_init 165 = .ok (.bipush 23, 2) := by decide +kernel
theorem d_D_init_167 : decode c_D_init 167 = .ok (.ldc2_w 53, 3) := by decide +kernel
theorem d_D_init_170 : decode c_D_init 170 = .ok (.lastore, 1) := by decide +kernel
theorem d_D_init_171 : decode c_D_init 171 = .ok (.dup, 1) := by decide +kernel
theorem d_D_init_172 : decode c_D_init 172 = .ok (.bipush 24, 2) := by decide +kernel
theorem d_D_init_174 : decode c_D_init 174 = .ok (.ldc2_w 55, 3) := by decide +kernel
theorem d_D_init_177 : decode c_D_init 177 = .ok (.lastore, 1) := by decide +kernel
theorem d_D_init_178 : decode c_D_init 178 = .ok (.dup, 1) := by decide +kernel
theorem d_D_init_179 : decode c_D_init 179 = .ok (.bipush 25, 2) := by decide +kernel
theorem d_D_init_181 : decode c_D_init 181 = .ok (.ldc2_w 57, 3) := by decide +kernel
theorem d_D_init_184 : decode c_D_init 184 = .ok (.lastore, 1) := by decide +kernel
theorem d_D_init_185 : decode c_D_init 185 = .ok (.dup, 1) := by decide +kernel
theorem d_D_init_186 : decode c_D_init 186 = .ok (.bipush 26, 2) := by decide +kernel
theorem d_D_init_188 : decode c_D_init 188 = .ok (.ldc2_w 59, 3) := by decide +kernel
theorem d_D_init_191 : decode c_D_init 191 = .ok (.lastore, 1) := by decide +kernel
theorem d_D_init_192 : decode c_D_init 192 = .ok (.dup, 1) := by decide +kernel
theorem d_D_init_193 : decode c_D_init 193 = .ok (.bipush 27, 2) := by decide +kernel
theorem d_D_init_195 : decode c_D_init 195 = .ok (.ldc2_w 61, 3) := by decide +kernel
theorem d_D_init_198 : decode c_D_init 198 = .ok (.lastore, 1) := by decide +kernel
theorem d_D_init_199 : decode c_D_init 199 = .ok (.dup, 1) := by decide +kernel
theorem d_D_init_200 : decode c_D_init 200 = .ok (.bipush 28, 2) := by decide +kernel
theorem d_D_init_202 : decode c_D_init 202 = .ok (.ldc2_w 63, 3) := by decide +kernel
theorem d_D_init_205 : decode c_D_init 205 = .ok (.lastore, 1) := by decide +kernel
theorem d_D_init_206 : decode c_D_init 206 = .ok (.dup, 1) := by decide +kernel
theorem d_D_init_207 : decode c_D_init 207 = .ok (.bipush 29, 2) := by decide +kernel
theorem d_D_init_209 : decode c_D_init 209 = .ok (.ldc2_w 65, 3) := by decide +kernel
theorem d_D_init_212 : decode c_D_init 212 = .ok (.lastore, 1) := by decide +kernel
theorem d_D_init_213 : decode c_D_init 213 = .ok (.dup, 1) := by decide +kernel
theorem d_D_init_214 : decode c_D_init 214 = .ok (.bipush 30, 2) := by decide +kernel
theorem d_D_init_216 : decode c_D_init 216 = .ok (.ldc2_w 67, 3) := by decide +kernel
theorem d_D_init_219 : decode c_D_init 219 = .ok (.lastore, 1) := by decide +kernel
theorem d_D_init_220 : decode c_D_init 220 = .ok (.dup, 1) := by decide +kernel
theorem d_D_init_221 : decode c_D_init 221 = .ok (.bipush 31, 2) := by decide +kernel
theorem d_D_init_223 : decode c_D_init 223 = .ok (.ldc2_w 69, 3) := by decide +kernel
theorem d_D_init_226 : decode c_D_init 226 = .ok (.lastore, 1) := by decide +kernel
theorem d_D_init_227 : decode c_D_init 227 = .ok (.dup, 1) := by decide +kernel
theorem d_D_init_228 : decode c_D_init 228 = .ok (.bipush 32, 2) := by decide +kernel
theorem d_D_init_230 : decode c_D_init 230 = .ok (.ldc2_w 71, 3) := by decide +kernel
theorem d_D_init_233 : decode c_D_init 233 = .ok (.lastore, 1) := by decide +kernel
theorem d_D_init_234 : decode c_D_init 234 = .ok (.dup, 1) := by decide +kernel
theorem d_D_init_235 : decode c_D_init 235 = .ok (.bipush 33, 2) := by decide +kernel
theorem d_D_init_237 : decode c_D_init 237 = .ok (.ldc2_w 73, 3) := by decide +kernel
theorem d_D_init_240 : decode c_D_init 240 = .ok (.lastore, 1) := by decide +kernel
theorem d_D_init_241 : decode c_D_init 241 = .ok (.dup, 1) := by decide +kernel
theorem d_D_init_242 : decode c_D_init 242 = .ok (.bipush 34, 2) := by decide +kernel
theorem d_D_init_244 : decode c_D_init 244 = .ok (.ldc2_w 75, 3) := by decide +kernel
theorem d_D_init_247 : decode c_D_init 247 = .ok (.lastore, 1) := by decide +kernel
theorem d_D_init_248 : decode c_D_init 248 = .ok (.dup, 1) := by decide +kernel
theorem d_D_init_249 : decode c_D_init 249 = .ok (.bipush 35, 2) := by decide +kernel
theorem d_D_init_251 : decode c_D_init 251 = .ok (.ldc2_w 77, 3) := by decide +kernel
theorem d_D_init_254 : decode c_D_init 254 = .ok (.lastore, 1) := by decide +kernel
theorem d_D_init_255 : decode c_D_init 255 = .ok (.dup, 1) := by decide +kernel
theorem d_D_init_256 : decode c_D_init 256 = .ok (.bipush 36, 2) := by decide +kernel
theorem d_D_init_258 : decode c_D_init 258 = .ok (.ldc2_w 79, 3) := by decide +kernel
theorem d_D_init_261 : decode c_D_init 261 = .ok (.lastore, 1) := by decide +kernel
theorem d_D_init_262 : decode c_D_init 262 = .ok (.dup, 1) := by decide +kernel
theorem d_D_init_263 : decode c_D_init 263 = .ok (.bipush 37, 2) := by decide +kernel
theorem d_D_init_265 : decode c_D_init 265 = .ok (.ldc2_w 81, 3) := by decide +kernel
theorem d_D_init_268 : decode c_D_init 268 = .ok (.lastore, 1) := by decide +kernel
theorem d_D_init_269 : decode c_D_init 269 = .ok (.dup, 1) := by decide +kernel
theorem d_D_init_270 : decode c_D_init 270 = .ok (.bipush 38, 2) := by decide +kernel
theorem d_D_init_272 : decode c_D_init 272 = .ok (.ldc2_w 83, 3) := by decide +kernel
theorem d_D_init_275 : decode c_D_init 275 = .ok (.lastore, 1) := by decide +kernel
theorem d_D_init_276 : decode c_D_init 276 = .ok (.dup, 1) := by decide +kernel
theorem d_D_init_277 : decode c_D_init 277 = .ok (.bipush 39, 2) := by decide +kernel
theorem d_D_init_279 : decode c_D_init 279 = .ok (.ldc2_w 85, 3) := by decide +kernel
theorem d_D_init_282 : decode c_D_init 282 = .ok (.lastore, 1) := by decide +kernel
theorem d_D_init_283 : decode c_D_init 283 = .ok (.dup, 1) := by decide +kernel
theorem d_D_init_284 : decode c_D_init 284 = .ok (.bipush 40, 2) := by decide +kernel
theorem d_D_init_286 : decode c_D_init 286 = .ok (.ldc2_w 87, 3) := by decide +kernel
theorem d_D_init_289 : decode c_D_init 289 = .ok (.lastore, 1) := by decide +kernel
theorem d_D_init_290 : decode c_D_init 290 = .ok (.dup, 1) := by decide +kernel
theorem d_D_init_291 : decode c_D_init 291 = .ok (.bipush 41, 2) := by decide +kernel
theorem d_D_init_293 : decode c_D_init 293 = .ok (.ldc2_w 89, 3) := by decide +kernel
theorem d_D_init_296 : decode c_D_init 296 = .ok (.lastore, 1) := by decide +kernel
theorem d_D_init_297 : decode c_D_init 297 = .ok (.dup, 1) := by decide +kernel
theorem d_D_init_298 : decode c_D_init 298 = .ok (.bipush 42, 2) := by decide +kernel
theorem d_D_init_300 : decode c_D_init 300 = .ok (.ldc2_w 91, 3) := by decide +kernel
theorem d_D_init_303 : decode c_D_init 303 = .ok (.lastore, 1) := by decide +kernel
theorem d_D_init_304 : decode c_D_init 304 = .ok (.dup, 1) := by decide +kernel
theorem d_D_init_305 : decode c_D_init 305 = .ok (.bipush 43, 2) := by decide +kernel
theorem d_D_init_307 : decode c_D_init 307 = .ok (.ldc2_w 93, 3) := by decide +kernel
theorem d_D_init_310 : decode c_D_init 310 = .ok (.lastore, 1) := by decide +kernel
theorem d_D_init_311 : decode c_D_init 311 = .ok (.dup, 1) := by decide +kernel
theorem d_D_init_312 : decode c_D_init 312 = .ok (.bipush 44, 2) := by decide +kernel
theorem d_D_init_314 : decode c_D_init 314 = .ok (.ldc2_w 95, 3) := by decide +kernel
theorem d_D_init_317 : decode c_D_init 317 = .ok (.lastore, 1) := by decide +kernel
theorem d_D_init_318 : decode c_D_init 318 = .ok (.dup, 1) := by decide +kernel
theorem d_D_init_319 : decode c_D_init 319 = .ok (.bipush 45, 2) := by decide +kernel
theorem d_D_init_321 : decode c_D_init 321 = .ok (.ldc2_w 97, 3) := by decide +kernel
theorem d_D_init_324 : decode c_D_init 324 = .ok (.lastore, 1) := by decide +kernel
theorem d_D_init_325 : decode c_D_init 325 = .ok (.dup, 1) := by decide +kernel
theorem d_D_init_326 : decode c_D_init 326 = .ok (.bipush 46, 2) := by decide +kernel
theorem d_D_init_328 : decode c_D_init 328 = .ok (.ldc2_w 99, 3) := by decide +kernel
theorem d_D_init_331 : decode c_D_init 331 = .ok (.lastore, 1) := by decide +kernel
theorem d_D_init_332 : decode c_D_init 332 = .ok (.dup, 1) := by decide +kernel
theorem d_D_init_333 : decode c_D_init 333 = .ok (.bipush 47, 2) := by decide +kernel
theorem d_D_init_335 : decode c_D_init 335 = .ok (.ldc2_w 101, 3) := by decide +kernel
theorem d_D_init_338 : decode c_D_init 338 = .ok (.lastore, 1) := by decide +kernel
theorem d_D_init_339 : decode c_D_init 339 = .ok (.dup, 1) := by decide +kernel
theorem d_D_init_340 : decode c_D_init 340 = .ok (.bipush 48, 2) := by decide +kernel
theorem d_D_init_342 : decode c_D_init 342 = .ok (.ldc2_w 103, 3) := by decide +kernel
theorem d_D_init_345 : decode c_D_init 345 = .ok (.lastore, 1) := by decide +kernel
theorem d_D_init_346 : decode c_D_init 346 = .ok (.dup, 1) := by decide +kernel
theorem d_D_init_347 : decode c_D_init 347 = .ok (.bipush 49, 2) := by decide +kernel
theorem d_D_init_349 : decode c_D_init 349 = .ok (.ldc2_w 105, 3) := by decide +kernel
theorem d_D_init_352 : decode c_D_init 352 = .ok (.lastore, 1) := by decide +kernel
theorem d_D_init_353 : decode c_D_init 353 = .ok (.dup, 1) := by decide +kernel
theorem d_D_init_354 : decode c_D_init 354 = .ok (.bipush 50, 2) := by decide +kernel
theorem d_D_init_356 : decode c_D_init 356 = .ok (.ldc2_w 107, 3) := by decide +kernel
theorem d_D_init_359 : decode c_D_init 359 = .ok (.lastore, 1) := by decide +kernel
theorem d_D_init_360 : decode c_D_init 360 = .ok (.dup, 1) := by decide +kernel
theorem d_D_init_361 : decode c_D_init 361 = .ok (.bipush 51, 2) := by decide +kernel
theorem d_D_init_363 : decode c_D_init 363 = .ok (.ldc2_w 109, 3) := by decide +kernel
theorem d_D_init_366 : decode c_D_init 366 = .ok (.lastore, 1) := by decide +kernel
theorem d_D_init_367 : decode c_D_init 367 = .ok (.dup, 1) := by decide +kernel
theorem d_D_init_368 : decode c_D_init 368 = .ok (.bipush 52, 2) := by decide +kernel
theorem d_D_init_370 : decode c_D_init 370 = .ok (.ldc2_w 111, 3) := by decide +kernel
theorem d_D_init_373 : decode c_D_init 373 = .ok (.lastore, 1) := by decide +kernel
theorem d_D_init_374 : decode c_D_init 374 = .ok (.dup, 1) := by decide +kernel
theorem d_D_init_375 : decode c_D_init 375 = .ok (.bipush 53, 2) := by decide +kernel
theorem d_D_init_377 : decode c_D_init 377 = .ok (.ldc2_w 113, 3) := by decide +kernel
theorem d_D_init_380 : decode c_D_init 380 = .ok (.lastore, 1) := by decide +kernel
theorem d_D_init_381 : decode c_D_init 381 = .ok (.dup, 1) := by decide +kernel
theorem d_D_init_382 : decode c_D_init 382 = .ok (.bipush 54, 2) := by decide +kernel
theorem d_D_init_384 : decode c_D_init 384 = .ok (.ldc2_w 115, 3) := by decide +kernel
theorem d_D_init_387 : decode c_D_init 387 = .ok (.lastore, 1) := by decide +kernel
theorem d_D_init_388 : decode c_D_init 388 = .ok (.dup, 1) := by decide +kernel
theorem d_D_init_389 : decode c_D_init 389 = .ok (.bipush 55, 2) := by decide +kernel
theorem d_D_init_391 : decode c_D_init 391 = .ok (.ldc2_w 117, 3) := by decide +kernel
theorem d_D_init_394 : decode c_D_init 394 = .ok (.lastore, 1) := by decide +kernel
theorem d_D_init_395 : decode c_D_init 395 = .ok (.dup, 1) := by decide +kernel
theorem d_D_init_396 : decode c_D_init 396 = .ok (.bipush 56, 2) := by decide +kernel
theorem d_D_init_398 : decode c_D_init 398 = .ok (.ldc2_w 119, 3) := by decide +kernel
theorem d_D_init_401 : decode c_D_init 401 = .ok (.lastore, 1) := by decide +kernel
theorem d_D_init_402 : decode c_D_init 402 = .ok (.dup, 1) := by decide +kernel
theorem d_D_init_403 : decode c_D_init 403 = .ok (.bipush 57, 2) := by decide +kernel
theorem d_D_init_405 : decode c_D_init 405 = .ok (.ldc2_w 121, 3) := by decide +kernel
theorem d_D_init_408 : decode c_D_init 408 = .ok (.lastore, 1) := by decide +kernel
theorem d_D_init_409 : decode c_D_init 409 = .ok (.dup, 1) := by decide +kernel
theorem d_D_init_410 : decode c_D_init 410 = .ok (.bipush 58, 2) := by decide +kernel
theorem d_D_init_412 : decode c_D_init 412 = .ok (.ldc2_w 123, 3) := by decide +kernel
theorem d_D_init_415 : decode c_D_init 415 = .ok (.lastore, 1) := by decide +kernel
theorem d_D_init_416 : decode c_D_init 416 = .ok (.dup, 1) := by decide +kernel
theorem d_D_init_417 : decode c_D_init 417 = .ok (.bipush 59, 2) := by decide +kernel
theorem d_D_init_419 : decode c_D_init 419 = .ok (.ldc2_w 125, 3) := by decide +kernel
theorem d_D_init_422 : decode c_D_init 422 = .ok (.lastore, 1) := by decide +kernel
theorem d_D_init_423 : decode c_D_init 423 = .ok (.dup, 1) := by decide +kernel
theorem d_D_init_424 : decode c_D_init 424 = .ok (.bipush 60, 2) := by decide +kernel
theorem d_D_init_426 : decode c_D_init 426 = .ok (.ldc2_w 127, 3) := by decide +kernel
theorem d_D_init_429 : decode c_D_init 429 = .ok (.lastore, 1) := by decide +kernel
theorem d_D_init_430 : decode c_D_init 430 = .ok (.dup, 1) := by decide +kernel
theorem d_D_init_431 : decode c_D_init 431 = .ok (.bipush 61, 2) := by decide +kernel
theorem d_D_init_433 : decode c_D_init 433 = .ok (.ldc2_w 129, 3) := by decide +kernel
theorem d_D_init_436 : decode c_D_init 436 = .ok (.lastore, 1) := by decide +kernel
theorem d_D_init_437 : decode c_D_init 437 = .ok (.dup, 1) := by decide +kernel
theorem d_D_init_438 : decode c_D_init 438 = .ok (.bipush 62, 2) := by decide +kernel
theorem d_D_init_440 : decode c_D_init 440 = .ok (.ldc2_w 131, 3) := by decide +kernel
theorem d_D_init_443 : decode c_D_init 443 = .ok (.lastore, 1) := by decide +kernel
theorem d_D_init_444 : decode c_D_init 444 = .ok (.dup, 1) := by decide +kernel
theorem d_D_init_445 : decode c_D_init 445 = .ok (.bipush 63, 2) := by decide +kernel
theorem d_D_init_447 : decode c_D_init 447 = .ok (.ldc2_w 133, 3) := by decide +kernel
theorem d_D_init_450 : decode c_D_init 450 = .ok (.lastore, 1) := by decide +kernel
theorem d_D_init_451 : decode c_D_init 451 = .ok (.dup, 1) := by decide +kernel
theorem d_D_init_452 : decode c_D_init 452 = .ok (.bipush 64, 2) := by decide +kernel
theorem d_D_init_454 : decode c_D_init 454 = .ok (.ldc2_w 135, 3) := by decide +kernel
theorem d_D_init_457 : decode c_D_init 457 = .ok (.lastore, 1) := by decide +kernel
theorem d_D_init_458 : decode c_D_init 458 = .ok (.dup, 1) := by decide +kernel
theorem d_D_init_459 : decode c_D_init 459 = .ok (.bipush 65, 2) := by decide +kernel
theorem d_D_init_461 : decode c_D_init 461 = .ok (.ldc2_w 137, 3) := by decide +kernel
theorem d_D_init_464 : decode c_D_init 464 = .ok (.lastore, 1) := by decide +kernel
theorem d_D_init_465 : decode c_D_init 465 = .ok (.dup, 1) := by decide +kernel
theorem d_D_init_466 : decode c_D_init 466 = .ok (.bipush 66, 2) := by decide +kernel
theorem d_D_init_468 : decode c_D_init 468 = .ok (.ldc2_w 139, 3) := by decide +kernel
theorem d_D_init_471 : decode c_D_init 471 = .ok (.lastore, 1) := by decide +kernel
theorem d_D_init_472 : decode c_D_init 472 = .ok (.dup, 1) := by decide +kernel
theorem d_D_init_473 : decode c_D_init 473 = .ok (.bipush 67, 2) := by decide +kernel
theorem d_D_init_475 : decode c_D_init 475 = .ok (.ldc2_w 141, 3) := by decide +kernel
theorem d_D_init_478 : decode c_D_init 478 = .ok (.lastore, 1) := by decide +kernel
theorem d_D_init_479 : decode c_D_init 479 = .ok (.dup, 1) := by decide +kernel
theorem d_D_init_480 : decode c_D_init 480 = .ok (.bipush 68, 2) := by decide +kernel
theorem d_D_init_482 : decode c_D_init 482 = .ok (.ldc2_w 143, 3) := by decide +kernel
theorem d_D_init_485 : decode c_D_init 485 = .ok (.lastore, 1) := by decide +kernel
theorem d_D_init_486 : decode c_D_init 486 = .ok (.dup, 1) := by decide +kernel
theorem d_D_init_487 : decode c_D_init 487 = .ok (.bipush 69, 2) := by decide +kernel
theorem d_D_init_489 : decode c_D_init 489 = .ok (.ldc2_w 145, 3) := by decide +kernel
theorem d_D_init_492 : decode c_D_init 492 = .ok (.lastore, 1) := by decide +kernel
theorem d_D_init_493 : decode c_D_init 493 = .ok (.dup, 1) := by decide +kernel
theorem d_D_init_494 : decode c_D_init 494 = .ok (.bipush 70, 2) := by decide +kernel
theorem d_D_init_496 : decode c_D_init 496 = .ok (.ldc2_w 147, 3) := by decide +kernel
theorem d_D_init_499 : decode c_D_init 499 = .ok (.lastore, 1) := by decide +kernel
theorem d_D_init_500 : decode c_D_init 500 = .ok (.dup, 1) := by decide +kernel
theorem d_D_init_501 : decode c_D_init 501 = .ok (.bipush 71, 2) := by decide +kernel
theorem d_D_init_503 : decode c_D_init 503 = .ok (.ldc2_w 149, 3) := by decide +kernel
theorem d_D_init_506 : decode c_D_init 506 = .ok (.lastore, 1) := by decide +kernel
theorem d_D_init_507 : decode c_D_init 507 = .ok (.dup, 1) := by decide +kernel
theorem d_D_init_508 : decode c_D_init 508 = .ok (.bipush 72, 2) := by decide +kernel
theorem d_D_init_510 : decode c_D_init 510 = .ok (.ldc2_w 151, 3) := by decide +kernel
theorem d_D_init_513 : decode c_D_init 513 = .ok (.lastore, 1) := by decide +kernel
theorem d_D_init_514 : decode c_D_init 514 = .ok (.dup, 1) := by decide +kernel
theorem d_D_init_515 : decode c_D_init 515 = .ok (.bipush 73, 2) := by decide +kernel
theorem d_D_init_517 : decode c_D_init 517 = .ok (.ldc2_w 153, 3) := by decide +kernel
theorem d_D_init_520 : decode c_D_init 520 = .ok (.lastore, 1) := by decide +kernel
theorem d_D_init_521 : decode c_D_init 521 = .ok (.dup, 1) := by decide +kernel
theorem d_D_init_522 : decode c_D_init 522 = .ok (.bipush 74, 2) := by decide +kernel
theorem d_D_init_524 : decode c_D_init 524 = .ok (.ldc2_w 155, 3) := by decide +kernel
theorem d_D_init_527 : decode c_D_init 527 = .ok (.lastore, 1) := by decide +kernel
theorem d_D_init_528 : decode c_D_init 528 = .ok (.dup, 1) := by decide +kernel
theorem d_D_init_529 : decode c_D_init 529 = .ok (.bipush 75, 2) := by decide +kernel
theorem d_D_init_531 : decode c_D_init 531 = .ok (.ldc2_w 157, 3) := by decide +kernel
theorem d_D_init_534 : decode c_D_init 534 = .ok (.lastore, 1) := by decide +kernel
theorem d_D_init_535 : decode c_D_init 535 = .ok (.dup, 1) := by decide +kernel
theorem d_D_init_536 : decode c_D_init 536 = .ok (.bipush 76, 2) := by decide +kernel
theorem d_D_init_538 : decode c_D_init 538 = .ok (.ldc2_w 159, 3) := by decide +kernel
theorem d_D_init_541 : decode c_D_init 541 = .ok (.lastore, 1) := by decide +kernel
theorem d_D_init_542 : decode c_D_init 542 = .ok (.dup, 1) := by decide +kernel
theorem d_D_init_543 : decode c_D_init 543 = .ok (.bipush 77, 2) := by decide +kernel
theorem d_D_init_545 : decode c_D_init 545 = .ok (.ldc2_w 161, 3) := by decide +kernel
theorem d_D_init_548 : decode c_D_init 548 = .ok (.lastore, 1) := by decide +kernel
theorem d_D_init_549 : decode c_D_init 549 = .ok (.dup, 1) := by decide +kernel
theorem d_D_init_550 : decode c_D_init 550 = .ok (.bipush 78, 2) := by decide +kernel
theorem d_D_init_552 : decode c_D_init 552 = .ok (.ldc2_w 163, 3) := by decide +kernel
theorem d_D_init_555 : decode c_D_init 555 = .ok (.lastore, 1) := by decide +kernel
theorem d_D_init_556 : decode c_D_init 556 = .ok (.dup, 1) := by decide +kernel
theorem d_D_init_557 : decode c_D_init 557 = .ok (.bipush 79, 2) := by decide +kernel
theorem d_D_init_559 : decode c_D_init 559 = .ok (.ldc2_w 165, 3) := by decide +kernel
theorem d_D_init_562 : decode c_D_init 562 = .ok (.lastore, 1) := by decide +kernel
theorem d_D_init_563 : decode c_D_init 563 = .ok (.dup, 1) := by decide +kernel
theorem d_D_init_564 : decode c_D_init 564 = .ok (.bipush 80, 2) := by decide +kernel
theorem d_D_init_566 : decode c_D_init 566 = .ok (.ldc2_w 167, 3) := by decide +kernel
theorem d_D_init_569 : decode c_D_init 569 = .ok (.lastore, 1) := by decide +kernel
theorem d_D_init_570 : decode c_D_init 570 = .ok (.dup, 1) := by decide +kernel
theorem d_D_init_571 : decode c_D_init 571 = .ok (.bipush 81, 2) := by decide +kernel
theorem d_D_init_573 : decode c_D_init 573 = .ok (.ldc2_w 169, 3) := by decide +kernel
theorem d_D_init_576 : decode c_D_init 576 = .ok (.lastore, 1) := by decide +kernel
theorem d_D_init_577 : decode c_D_init 577 = .ok (.dup, 1) := by decide +kernel
theorem d_D_init_578 : decode c_D_init 578 = .ok (.bipush 82, 2) := by decide +kernel
theorem d_D_init_580 : decode c_D_init 580 = .ok (.ldc2_w 171, 3) := by decide +kernel
theorem d_D_init_583 : decode c_D_init 583 = .ok (.lastore, 1) := by decide +kernel
theorem d_D_init_584 : decode c_D_init 584 = .ok (.dup, 1) := by decide +kernel
theorem d_D_init_585 : decode c_D_init 585 = .ok (.bipush 83, 2) := by decide +kernel
theorem d_D_init_587 : decode c_D_init 587 = .ok (.ldc2_w 173, 3) := by decide +kernel
theorem d_D_init_590 : decode c_D_init 590 = .ok (.lastore, 1) := by decide +kernel
theorem d_D_init_591 : decode c_D_init 591 = .ok (.dup, 1) := by decide +kernel
theorem d_D_init_592 : decode c_D_init 592 = .ok (.bipush 84, 2) := by decide +kernel
theorem d_D_init_594 : decode c_D_init 594 = .ok (.ldc2_w 175, 3) := by decide +kernel
theorem d_D_init_597 : decode c_D_init 597 = .ok (.lastore, 1) := by decide +kernel
theorem d_D_init_598 : decode c_D_init 598 = .ok (.dup, 1) := by decide +kernel
theorem d_D_init_599 : decode c_D_init 599 = .ok (.bipush 85, 2) := by decide +kernel
theorem d_D_init_601 : decode c_D_init 601 = .ok (.ldc2_w 177, 3) := by decide +kernel
theorem d_D_init_604 : decode c_D_init 604 = .ok (.lastore, 1) := by decide +kernel
theorem d_D_init_605 : decode c_D_init 605 = .ok (.dup, 1) := by decide +kernel
theorem d_D_init_606 : decode c_D_init 606 = .ok (.bipush 86, 2) := by decide +kernel
theorem d_D_init_608 : decode c_D_init 608 = .ok (.ldc2_w 179, 3) := by decide +kernel
theorem d_D_init_611 : decode c_D_init 611 = .ok (.lastore, 1) := by decide +kernel
theorem d_D_init_612 : decode c_D_init 612 = .ok (.dup, 1) := by decide +kernel
theorem d_D_init_613 : decode c_D_init 613 = .ok (.bipush 87, 2) := by decide +kernel
theorem d_D_init_615 : decode c_D_init 615 = .ok (.ldc2_w 181, 3) := by decide +kernel
theorem d_D_init_618 : decode c_D_init 618 = .ok (.lastore, 1) := by decide +kernel
theorem d_D_init_619 : decode c_D_init 619 = .ok (.dup, 1) := by decide +kernel
theorem d_D_init_620 : decode c_D_init 620 = .ok (.bipush 88, 2) := by decide +kernel
theorem d_D_init_622 : decode c_D_init 622 = .ok (.ldc2_w 183, 3) := by decide +kernel
theorem d_D_init_625 : decode c_D_init 625 = .ok (.lastore, 1) := by decide +kernel
theorem d_D_init_626 : decode c_D_init 626 = .ok (.dup, 1) := by decide +kernel
theorem d_D_init_627 : decode c_D_init 627 = .ok (.bipush 89, 2) := by decide +kernel
theorem d_D_init_629 : decode c_D_init 629 = .ok (.ldc2_w 185, 3) := by decide +kernel
theorem d_D_init_632 : decode c_D_init 632 = .ok (.lastore, 1) := by decide +kernel
theorem d_D_init_633 : decode c_D_init 633 = .ok (.dup, 1) := by decide +kernel
theorem d_D_init_634 : decode c_D_init 634 = .ok (.bipush 90, 2) := by decide +kernel
theorem d_D_init_636 : decode c_D_init 636 = .ok (.ldc2_w 187, 3) := by decide +kernel
theorem d_D_init_639 : decode c_D_init 639 = .ok (.lastore, 1) := by decide +kernel
theorem d_D_init_640 : decode c_D_init 640 = .ok (.putfield 189, 3) := by decide +kernel
theorem d_D_init_643 : decode c_D_init 643 = .ok (.aload_n 0, 1) := by decide +kernel
theorem d_D_init_644 : decode c_D_init 644 = .ok (.bipush 91, 2) := by decide +kernel
theorem d_D_init_646 : decode c_D_init 646 = .ok (.newarray .int, 2) := by decide +kernel
theorem d_D_init_648 : decode c_D_init 648 = .ok (.dup, 1) := by decide +kernel
theorem d_D_init_649 : decode c_D_init 649 = .ok (.iconst 0, 1) := by decide +kernel
theorem d_D_init_650 : decode c_D_init 650 = .ok (.iconst 0, 1) := by decide +kernel
theorem d_D_init_651 : decode c_D_init 651 = .ok (.iastore, 1) := by decide +kernel
theorem d_D_init_652 : decode c_D_init 652 = .ok (.dup, 1) := by decide +kernel
theorem d_D_init_653 : decode c_D_init 653 = .ok (.iconst 1, 1) := by decide +kernel
theorem d_D_init_654 : decode c_D_init 654 = .ok (.iconst 0, 1) := by decide +kernel
theorem d_D_init_655 : decode c_D_init 655 = .ok (.iastore, 1) := by decide +kernel
theorem d_D_init_656 : decode c_D_init 656 = .ok (.dup, 1) := by decide +kernel
theorem d_D_init_657 : decode c_D_init 657 = .ok (.iconst 2, 1) := by decide +kernel
theorem d_D_init_658 : decode c_D_init 658 = .ok (.iconst 0, 1) := by decide +kernel
theorem d_D_init_659 : decode c_D_init 659 = .ok (.iastore, 1) := by decide +kernel
theorem d_D_init_660 : decode c_D_init 660 = .ok (.dup, 1) := by decide +kernel
theorem d_D_init_661 : decode c_D_init 661 = .ok (.iconst 3, 1) := by decide +kernel
theorem d_D_init_662 : decode c_D_init 662 = .ok (.iconst 0, 1) := by decide +kernel
theorem d_D_init_663 : decode c_D_init 663 = .ok (.iastore, 1) := by decide +kernel
theorem d_D_init_664 : decode c_D_init 664 = .ok (.dup, 1) := by decide +kernel
theorem d_D_init_665 : decode c_D_init 665 = .ok (.iconst 4, 1) := by decide +kernel
theorem d_D_init_666 : decode c_D_init 666 = .ok (.iconst 0, 1) := by decide +kernel
theorem d_D_init_667 : decode c_D_init 667 = .ok (.iastore, 1) := by decide +kernel
theorem d_D_init_668 : decode c_D_init 668 = .ok (.dup, 1) := by decide +kernel
theorem d_D_init_669 : decode c_D_init 669 = .ok (.iconst 5, 1) := by decide +kernel
theorem d_D_init_670 : decode c_D_init 670 = .ok (.iconst 0, 1) := by decide +kernel
theorem d_D_init_671 : decode c_D_init 671 = .ok (.iastore, 1) := by decide +kernel
theorem d_D_init_672 : decode c_D_init 672 = .ok (.dup, 1) := by decide +kernel
theorem d_D_init_673 : decode c_D_init 673 = .ok (.bipush 6, 2) := by decide +kernel
theorem d_D_init_675 : decode c_D_init 675 = .ok (.iconst 0, 1) := by decide +kernel
theorem d_D_init_676 : decode c_D_init 676 = .ok (.iastore, 1) := by decide +kernel
theorem d_D_init_677 : decode c_D_init 677 = .ok (.dup, 1) := by decide +kernel
theorem d_D_init_678 : decode c_D_init 678 = .ok (.bipush 7, 2) := by decide +kernel
theorem d_D_init_680 : decode c_D_init 680 = .ok (.iconst 0, 1) := by decide +kernel
theorem d_D_init_681 : decode c_D_init 681 = .ok (.iastore, 1) := by decide +kernel
theorem d_D_init_682 : decode c_D_init 682 = .ok (.dup, 1) := by decide +kernel
theorem d_D_init_683 : decode c_D_init 683 = .ok (.bipush 8, 2) := by decide +kernel
theorem d_D_init_685 : decode c_D_init 685 = .ok (.iconst 0, 1) := by decide +kernel
theorem d_D_init_686 : decode c_D_init 686 = .ok (.iastore, 1) := by decide +kernel
theorem d_D_init_687 : decode c_D_init 687 = .ok (.dup, 1) := by decide +kernel
theorem d_D_init_688 : decode c_D_init 688 = .ok (.bipush 9, 2) := by decide +kernel
theorem d_D_init_690 : decode c_D_init 690 = .ok (.iconst 0, 1) := by decide +kernel
theorem d_D_init_691 : decode c_D_init 691 = .ok (.iastore, 1) := by decide +kernel
theorem d_D_init_692 : decode c_D_init 692 = .ok (.dup, 1) := by decide +kernel
theorem d_D_init_693 : decode c_D_init 693 = .ok (.bipush 10, 2) := by decide +kernel
theorem d_D_init_695 : decode c_D_init 695 = .ok (.iconst 0, 1) := by decide +kernel
theorem d_D_init_696 : decode c_D_init 696 = .ok (.iastore, 1) := by decide +kernel
theorem d_D_init_697 : decode c_D_init 697 = .ok (.dup, 1) := by decide +kernel
theorem d_D_init_698 : decode c_D_init 698 = .ok (.bipush 11, 2) := by decide +kernel
theorem d_D_init_700 : decode c_D_init 700 = .ok (.iconst 0, 1) := by decide +kernel
theorem d_D_init_701 : decode c_D_init 701 = .ok (.iastore, 1) := by decide +kernel
theorem d_D_init_702 : decode c_D_init 702 = .ok (.dup, 1) := by decide +kernel
theorem d_D_init_703 : decode c_D_init 703 = .ok (.bipush 12, 2) := by decide +kernel
theorem d_D_init_705 : decode c_D_init 705 = .ok (.iconst 0, 1) := by decide +kernel
theorem d_D_init_706 : decode c_D_init 706 = .ok (.iastore, 1) := by decide +kernel
theorem d_D_init_707 : decode c_D_init 707 = .ok (.dup, 1) := by decide +kernel
theorem d_D_init_708 : decode c_D_init 708 = .ok (.bipush 13, 2) := by decide +kernel
theorem d_D_init_710 : decode c_D_init 710 = .ok (.iconst 0, 1) := by decide +kernel
theorem d_D_init_711 : decode c_D_init 711 = .ok (.iastore, 1) := by decide +kernel
theorem d_D_init_712 : decode c_D_init 712 = .ok (.dup, 1) := by decide +kernel
theorem d_D_init_713 : decode c_D_init 713 = .ok (.bipush 14, 2) := by decide +kernel
theorem d_D_init_715 : decode c_D_init 715 = .ok (.iconst 0, 1) := by decide +kernel
theorem d_D_init_716 : decode c_D_init 716 = .ok (.iastore, 1) := by decide +kernel
theorem d_D_init_717 : decode c_D_init 717 = .ok (.dup, 1) := by decide +kernel
theorem d_D_init_718 : decode c_D_init 718 = .ok (.bipush 15, 2) := by decide +kernel
theorem d_D_init_720 : decode c_D_init 720 = .ok (.iconst 0, 1) := by decide +kernel
theorem d_D_init_721 : decode c_D_init 721 = .ok (.iastore, 1) := by decide +kernel
theorem d_D_init_722 : decode c_D_init 722 = .ok (.dup, 1) := by decide +kernel
theorem d_D_init_723 : decode c_D_init 723 = .ok (.bipush 16, 2) := by decide +kernel
theorem d_D_init_725 : decode c_D_init 725 = .ok (.iconst 0, 1) := by decide +kernel
theorem d_D_init_726 : decode c_D_init 726 = .ok (.iastore, 1) := by decide +kernel
theorem d_D_init_727 : decode c_D_init 727 = .ok (.dup, 1) := by decide +kernel
theorem d_D_init_728 : decode c_D_init 728 = .ok (.bipush 17, 2) := by decide +kernel
theorem d_D_init_730 : decode c_D_init 730 = .ok (.iconst 0, 1) := by decide +kernel
theorem d_D_init_731 : decode c_D_init 731 = .ok (.iastore, 1) := by decide +kernel
theorem d_D_init_732 : decode c_D_init 732 = .ok (.dup, 1) := by decide +kernel
theorem d_D_init_733 : decode c_D_init 733 = .ok (.bipush 18, 2) := by decide +kernel
theorem d_D_init_735 : decode c_D_init 735 = .ok (.iconst 0, 1) := by decide +kernel
theorem d_D_init_736 : decode c_D_init 736 = .ok (.iastore, 1) := by decide +kernel
theorem d_D_init_737 : decode c_D_init 737 = .ok (.dup, 1) := by decide +kernel
theorem d_D_init_738 : decode c_D_init 738 = .ok (.bipush 19, 2) := by decide +kernel
theorem d_D_init_740 : decode c_D_init 740 = .ok (.iconst 0, 1) := by decide +kernel
theorem d_D_init_741 : decode c_D_init 741 = .ok (.iastore, 1) := by decide +kernel
theorem d_D_init_742 : decode c_D_init 742 = .ok (.dup, 1) := by decide +kernel
theorem d_D_init_743 : decode c_D_init 743 = .ok (.bipush 20, 2) := by decide +kernel
theorem d_D_init_745 : decode c_D_init 745 = .ok (.iconst 0, 1) := by decide +kernel
theorem d_D_init_746 : decode c_D_init 746 = .ok (.iastore, 1) := by decide +kernel
theorem d_D_init_747 : decode c_D_init 747 = .ok (.dup, 1) := by decide +kernel
theorem d_D_init_748 : decode c_D_init 748 = .ok (.bipush 21, 2) := by decide +kernel
theorem d_D_init_750 : decode c_D_init 750 = .ok (.iconst 0, 1) := by decide +kernel
theorem d_D_init_751 : decode c_D_init 751 = .ok (.iastore, 1) := by decide +kernel
theorem d_D_init_752 : decode c_D_init 752 = .ok (.dup, 1) := by decide +kernel
theorem d_D_init_753 : decode c_D_init 753 = .ok (.bipush 22, 2) := by decide +kernel
theorem d_D_init_755 : decode c_D_init 755 = .ok (.iconst 0, 1) := by decide +kernel
theorem d_D_init_756 : decode c_D_init 756 = .ok (.iastore, 1) := by decide +kernel
theorem d_D_init_757 : decode c_D_init 757 = .ok (.dup, 1) := by decide +kernel
theorem d_D_init_758 : decode c_D_init 758 = .ok (.bipush 23, 2) := by decide +kernel
theorem d_D_init_760 : decode c_D_init 760 = .ok (.iconst 0, 1) := by decide +kernel
theorem d_D_init_761 : decode c_D_init 761 = .ok (.iastore, 1) := by decide +kernel
theorem d_D_init_762 : decode c_D_init 762 = .ok (.dup, 1) := by decide +kernel
theorem d_D_init_763 : decode c_D_init 763 = .ok (.bipush 24, 2) := by decide +kernel
theorem d_D_init_765 : decode c_D_init 765 = .ok (.iconst 0, 1) := by decide +kernel
theorem d_D_init_766 : decode c_D_init 766 = .ok (.iastore, 1) := by decide +kernel
theorem d_D_init_767 : decode c_D_init 767 = .ok (.dup, 1) := by decide +kernel
theorem d_D_init_768 : decode c_D_init 768 = .ok (.bipush 25, 2) := by decide +kernel
theorem d_D_init_770 : decode c_D_init 770 = .ok (.iconst 0, 1) := by decide +kernel
theorem d_D_init_771 : decode c_D_init 771 = .ok (.iastore, 1) := by decide +kernel
theorem d_D_init_772 : decode c_D_init 772 = .ok (.dup, 1) := by decide +kernel
theorem d_D_init_773 : decode c_D_init 773 = .ok (.bipush 26, 2) := by decide +kernel
theorem d_D_init_775 : decode c_D_init 775 = .ok (.iconst 0, 1) := by decide +kernel
theorem d_D_init_776 : decode c_D_init 776 = .ok (.iastore, 1) := by decide +kernel
theorem d_D_init_777 : decode c_D_init 777 = .ok (.dup, 1) := by decide +kernel
theorem d_D_init_778 : decode c_D_init 778 = .ok (.bipush 27, 2) := by decide +kernel
theorem d_D_init_780 : decode c_D_init 780 = .ok (.iconst 0, 1) := by decide +kernel
theorem d_D_init_781 : decode c_D_init 781 = .ok (.iastore, 1) := by decide +kernel
theorem d_D_init_782 : decode c_D_init 782 = .ok (.dup, 1) := by decide +kernel
theorem d_D_init_783 : decode c_D_init 783 = .ok (.bipush 28, 2) := by decide +kernel
theorem d_D_init_785 : decode c_D_init 785 = .ok (.iconst 0, 1) := by decide +kernel
theorem d_D_init_786 : decode c_D_init 786 = .ok (.iastore, 1) := by decide +kernel
theorem d_D_init_787 : decode c_D_init 787 = .ok (.dup, 1) := by decide +kernel
theorem d_D_init_788 : decode c_D_init 788 = .ok (.bipush 29, 2) := by decide +kernel
theorem d_D_init_790 : decode c_D_init 790 = .ok (.iconst 0, 1) := by decide +kernel
theorem d_D_init_791 : decode c_D_init 791 = .ok (.iastore, 1) := by decide +kernel
theorem d_D_init_792 : decode c_D_init 792 = .ok (.dup, 1) := by decide +kernel
theorem d_D_init_793 : decode c_D_init 793 = .ok (.bipush 30, 2) := by decide +kernel
theorem d_D_init_795 : decode c_D_init 795 = .ok (.iconst 0, 1) := by decide +kernel
theorem d_D_init_796 : decode c_D_init 796 = .ok (.iastore, 1) := by decide +kernel
theorem d_D_init_797 : decode c_D_init 797 = .ok (.dup, 1) := by decide +kernel
theorem d_D_init_798 : decode c_D_init 798 = .ok (.bipush 31, 2) := by decide +kernel
theorem d_D_init_800 : decode c_D_init 800 = .ok (.iconst 0, 1) := by decide +kernel
theorem d_D_init_801 : decode c_D_init 801 = .ok (.iastore, 1) := by decide +kernel
theorem d_D_init_802 : decode c_D_init 802 = .ok (.dup, 1) := by decide +kernel
theorem d_D_init_803 : decode c_D_init 803 = .ok (.bipush 32, 2) := by decide +kernel
theorem d_D_init_805 : decode c_D_init 805 = .ok (.iconst 0, 1) := by decide +kernel
theorem d_D_init_806 : decode c_D_init 806 = .ok (.iastore, 1) := by decide +kernel
theorem d_D_init_807 : decode c_D_init 807 = .ok (.dup, 1) := by decide +kernel
theorem d_D_init_808 : decode c_D_init 808 = .ok (.bipush 33, 2) := by decide +kernel
theorem d_D_init_810 : decode c_D_init 810 = .ok (.iconst 0, 1) := by decide +kernel
theorem d_D_init_811 : decode c_D_init 811 = .ok (.iastore, 1) := by decide +kernel
theorem d_D_init_812 : decode c_D_init 812 = .ok (.dup, 1) := by decide +kernel
theorem d_D_init_813 : decode c_D_init 813 = .ok (.bipush 34, 2) := by decide +kernel
theorem d_D_init_815 : decode c_D_init 815 = .ok (.iconst 0, 1) := by decide +kernel
theorem d_D_init_816 : decode c_D_init 816 = .ok (.iastore, 1) := by decide +kernel
theorem d_D_init_817 : decode c_D_init 817 = .ok (.dup, 1) := by decide +kernel
theorem d_D_init_818 : decode c_D_init 818 = .ok (.bipush 35, 2) := by decide +kernel
theorem d_D_init_820 : decode c_D_init 820 = .ok (.iconst 1, 1) := by decide +kernel
theorem d_D_init_821 : decode c_D_init 821 = .ok (.iastore, 1) := by decide +kernel
theorem d_D_init_822 : decode c_D_init 822 = .ok (.dup, 1) := by decide +kernel
theorem d_D_init_823 : decode c_D_init 823 = .ok (.bipush 36, 2) := by decide +kernel
theorem d_D_init_825 : decode c_D_init 825 = .ok (.iconst 2, 1) := by decide +kernel
theorem d_D_init_826 : decode c_D_init 826 = .ok (.iastore, 1) := by decide +kernel
theorem d_D_init_827 : decode c_D_init 827 = .ok (.dup, 1) := by decide +kernel
theorem d_D_init_828 : decode c_D_init 828 = .ok (.bipush 37, 2) := by decide +kernel
theorem d_D_init_830 : decode c_D_init 830 = .ok (.iconst 2, 1) := by decide +kernel
theorem d_D_init_831 : decode c_D_init 831 = .ok (.iastore, 1) := by decide +kernel
theorem d_D_init_832 : decode c_D_init 832 = .ok (.dup, 1) := by decide +kernel
theorem d_D_init_833 : decode c_D_init 833 = .ok (.bipush 38, 2) := by decide +kernel
theorem d_D_init_835 : decode c_D_init 835 = .ok (.iconst 2, 1) := by decide +kernel
theorem d_D_init_836 : decode c_D_init 836 = .ok (.iastore, 1) := by decide +kernel
theorem d_D_init_837 : decode c_D_init 837 = .ok (.dup, 1) := by decide +kernel
theorem d_D_init_838 : decode c_D_init 838 = .ok (.bipush 39, 2) := by decide +kernel
theorem d_D_init_840 : decode c_D_init 840 = .ok (.iconst 2, 1) := by decide +kernel
theorem d_D_init_841 : decode c_D_init 841 = .ok (.iastore, 1) := by decide +kernel
theorem d_D_init_842 : decode c_D_init 842 = .ok (.dup, 1) := by decide +kernel
theorem d_D_init_843 : decode c_D_init 843 = .ok (.bipush 40, 2) := by decide +kernel
theorem d_D_init_845 : decode c_D_init 845 = .ok (.iconst 3, 1) := by decide +kernel
theorem d_D_init_846 : decode c_D_init 846 = .ok (.iastore, 1) := by decide +kernel
theorem d_D_init_847 : decode c_D_init 847 = .ok (.dup, 1) := by decide +kernel
theorem d_D_init_848 : decode c_D_init 848 = .ok (.bipush 41, 2) := by decide +kernel
theorem d_D_init_850 : decode c_D_init 850 = .ok (.iconst 3, 1) := by decide +kernel
theorem d_D_init_851 : decode c_D_init 851 = .ok (.iastore, 1) := by decide +kernel
theorem d_D_init_852 : decode c_D_init 852 = .ok (.dup, 1) := by decide +kernel
theorem d_D_init_853 : decode c_D_init 853 = .ok (.bipush 42, 2) := by decide +kernel
theorem d_D_init_855 : decode c_D_init 855 = .ok (.iconst 3, 1) := by decide +kernel
theorem d_D_init_856 : decode c_D_init 856 = .ok (.iastore, 1) := by decide +kernel
theorem d_D_init_857 : decode c_D_init 857 = .ok (.dup, 1) := by decide +kernel
theorem d_D_init_858 : decode c_D_init 858 = .ok (.bipush 43, 2) := by decide +kernel
theorem d_D_init_860 : decode c_D_init 860 = .ok (.iconst 3, 1) := by decide +kernel
theorem d_D_init_861 : decode c_D_init 861 = .ok (.iastore, 1) := by decide +kernel
theorem d_D_init_862 : decode c_D_init 862 = .ok (.dup, 1) := by decide +kernel
theorem d_D_init_863 : decode c_D_init 863 = .ok (.bipush 44, 2) := by decide +kernel
theorem d_D_init_865 : decode c_D_init 865 = .ok (.iconst 3, 1) := by decide +kernel
theorem d_D_init_866 : decode c_D_init 866 = .ok (.iastore, 1) := by decide +kernel
theorem d_D_init_867 : decode c_D_init 867 = .ok (.dup, 1) := by decide +kernel
theorem d_D_init_868 : decode c_D_init 868 = .ok (.bipush 45, 2) := by decide +kernel
theorem d_D_init_870 : decode c_D_init 870 = .ok (.iconst 4, 1) := by decide +kernel
theorem d_D_init_871 : decode c_D_init 871 = .ok (.iastore, 1) := by decide +kernel
theorem d_D_init_872 : decode c_D_init 872 = .ok (.dup, 1) := by decide +kernel
theorem d_D_init_873 : decode c_D_init 873 = .ok (.bipush 46, 2) := by decide +kernel
theorem d_D_init_875 : decode c_D_init 875 = .ok (.iconst 5, 1) := by decide +kernel
theorem d_D_init_876 : decode c_D_init 876 = .ok (.iastore, 1) := by decide +kernel
theorem d_D_init_877 : decode c_D_init 877 = .ok (.dup, 1) := by decide +kernel
theorem d_D_init_878 : decode c_D_init 878 = .ok (.bipush 47, 2) := by decide +kernel
theorem d_D_init_880 : decode c_D_init 880 = .ok (.iconst 3, 1) := by decide +kernel
theorem d_D_init_881 : decode c_D_init 881 = .ok (.iastore, 1) := by decide +kernel
theorem d_D_init_882 : decode c_D_init 882 = .ok (.dup, 1) := by decide +kernel
theorem d_D_init_883 : decode c_D_init 883 = .ok (.bipush 48, 2) := by decide +kernel
theorem d_D_init_885 : decode c_D_init 885 = .ok (.iconst 5, 1) := by decide +kernel
theorem d_D_init_886 : decode c_D_init 886 = .ok (.iastore, 1) := by decide +kernel
theorem d_D_init_887 : decode c_D_init 887 = .ok (.dup, 1) := by decide +kernel
theorem d_D_init_888 : decode c_D_init 888 = .ok (.bipush 49, 2) := by decide +kernel
theorem d_D_init_890 : decode c_D_init 890 = .ok (.iconst 3, 1) := by decide +kernel
theorem d_D_init_891 : decode c_D_init 891 = .ok (.iastore, 1) := by decide +kernel
theorem d_D_init_892 : decode c_D_init 892 = .ok (.dup, 1) := by decide +kernel
theorem d_D_init_893 : decode c_D_init 893 = .ok (.bipush 50, 2) := by decide +kernel
theorem d_D_init_895 : decode c_D_init 895 = .ok (.iconst 5, 1) := by decide +kernel
theorem d_D_init_896 : decode c_D_init 896 = .ok (.iastore, 1) := by decide +kernel
theorem d_D_init_897 : decode c_D_init 897 = .ok (.dup, 1) := by decide +kernel
theorem d_D_init_898 : decode c_D_init 898 = .ok (.bipush 51, 2) := by decide +kernel
theorem d_D_init_900 : decode c_D_init 900 = .ok (.iconst 3, 1) := by decide +kernel
theorem d_D_init_901 : decode c_D_init 901 = .ok (.iastore, 1) := by decide +kernel
theorem d_D_init_902 : decode c_D_init 902 = .ok (.dup, 1) := by decide +kernel
theorem d_D_init_903 : decode c_D_init 903 = .ok (.bipush 52, 2) := by decide +kernel
theorem d_D_init_905 : decode c_D_init 905 = .ok (.iconst 5, 1) := by decide +kernel
theorem d_D_init_906 : decode c_D_init 906 = .ok (.iastore, 1) := by decide +kernel
theorem d_D_init_907 : decode c_D_init 907 = .ok (.dup, 1) := by decide +kernel
theorem d_D_init_908 : decode c_D_init 908 = .ok (.bipush 53, 2) := by decide +kernel
theorem d_D_init_910 : decode c_D_init 910 = .ok (.iconst 3, 1) := by decide +kernel
theorem d_D_init_911 : decode c_D_init 911 = .ok (.iastore, 1) := by decide +kernel
theorem d_D_init_912 : decode c_D_init 912 = .ok (.dup, 1) := by decide +kernel
theorem d_D_init_913 : decode c_D_init 913 = .ok (.bipush 54, 2) := by decide +kernel
theorem d_D_init_915 : decode c_D_init 915 = .ok (.iconst 5, 1) := by decide +kernel
theorem d_D_init_916 : decode c_D_init 916 = .ok (.iastore, 1) := by decide +kernel
theorem d_D_init_917 : decode c_D_init 917 = .ok (.dup, 1) := by decide +kernel
theorem d_D_init_918 : decode c_D_init 918 = .ok (.bipush 55, 2) := by decide +kernel
theorem d_D_init_920 : decode c_D_init 920 = .ok (.iconst 3, 1) := by decide +kernel
theorem d_D_init_921 : decode c_D_init 921 = .ok (.iastore, 1) := by decide +kernel
theorem d_D_init_922 : decode c_D_init 922 = .ok (.dup, 1) := by decide +kernel
theorem d_D_init_923 : decode c_D_init 923 = .ok (.bipush 56, 2) := by decide +kernel
theorem d_D_init_925 : decode c_D_init 925 = .ok (.iconst 5, 1) := by decide +kernel
theorem d_D_init_926 : decode c_D_init 926 = .ok (.iastore, 1) := by decide +kernel
theorem d_D_init_927 : decode c_D_init 927 = .ok (.dup, 1) := by decide +kernel
theorem d_D_init_928 : decode c_D_init 928 = .ok (.bipush 57, 2) := by decide +kernel
theorem d_D_init_930 : decode c_D_init 930 = .ok (.iconst 3, 1) := by decide +kernel
theorem d_D_init_931 : decode c_D_init 931 = .ok (.iastore, 1) := by decide +kernel
theorem d_D_init_932 : decode c_D_init 932 = .ok (.dup, 1) := by decide +kernel
theorem d_D_init_933 : decode c_D_init 933 = .ok (.bipush 58, 2) := by decide +kernel
theorem d_D_init_935 : decode c_D_init 935 = .ok (.iconst 5, 1) := by decide +kernel
theorem d_D_init_936 : decode c_D_init 936 = .ok (.iastore, 1) := by decide +kernel
theorem d_D_init_937 : decode c_D_init 937 = .ok (.dup, 1) := by decide +kernel
theorem d_D_init_938 : decode c_D_init 938 = .ok (.bipush 59, 2) := by decide +kernel
theorem d_D_init_940 : decode c_D_init 940 = .ok (.iconst 3, 1) := by decide +kernel
theorem d_D_init_941 : decode c_D_init 941 = .ok (.iastore, 1) := by decide +kernel
theorem d_D_init_942 : decode c_D_init 942 = .ok (.dup, 1) := by decide +kernel
theorem d_D_init_943 : decode c_D_init 943 = .ok (.bipush 60, 2) := by decide +kernel
theorem d_D_init_945 : decode c_D_init 945 = .ok (.iconst 5, 1) := by decide +kernel
theorem d_D_init_946 : decode c_D_init 946 = .ok (.iastore, 1) := by decide +kernel
theorem d_D_init_947 : decode c_D_init 947 = .ok (.dup, 1) := by decide +kernel
theorem d_D_init_948 : decode c_D_init 948 = .ok (.bipush 61, 2) := by decide +kernel
theorem d_D_init_950 : decode c_D_init 950 = .ok (.iconst 3, 1) := by decide +kernel
theorem d_D_init_951 : decode c_D_init 951 = .ok (.iastore, 1) := by decide +kernel
theorem d_D_init_952 : decode c_D_init 952 = .ok (.dup, 1) := by decide +kernel
theorem d_D_init_953 : decode c_D_init 953 = .ok (.bipush 62, 2) := by decide +kernel
theorem d_D_init_955 : decode c_D_init 955 = .ok (.iconst 5, 1) := by decide +kernel
theorem d_D_init_956 : decode c_D_init 956 = .ok (.iastore, 1) := by decide +kernel
theorem d_D_init_957 : decode c_D_init 957 = .ok (.dup, 1) := by decide +kernel
theorem d_D_init_958 : decode c_D_init 958 = .ok (.bipush 63, 2) := by decide +kernel
theorem d_D_init_960 : decode c_D_init 960 = .ok (.iconst 3, 1) := by decide +kernel
theorem d_D_init_961 : decode c_D_init 961 = .ok (.iastore, 1) := by decide +kernel
theorem d_D_init_962 : decode c_D_init 962 = .ok (.dup, 1) := by decide +kernel
theorem d_D_init_963 : decode c_D_init 963 = .ok (.bipush 64, 2) := by decide +kernel
theorem d_D_init_965 : decode c_D_init 965 = .ok (.iconst 5, 1) := by decide +kernel
theorem d_D_init_966 : decode c_D_init 966 = .ok (.iastore, 1) := by decide +kernel
theorem d_D_init_967 : decode c_D_init 967 = .ok (.dup, 1) := by decide +kernel
theorem d_D_init_968 : decode c_D_init 968 = .ok (.bipush 65, 2) := by decide +kernel
theorem d_D_init_970 : decode c_D_init 970 = .ok (.iconst 3, 1) := by decide +kernel
theorem d_D_init_971 : decode c_D_init 971 = .ok (.iastore, 1) := by decide +kernel
theorem d_D_init_972 : decode c_D_init 972 = .ok (.dup, 1) := by decide +kernel
theorem d_D_init_973 : decode c_D_init 973 = .ok (.bipush 66, 2) := by decide +kernel
theorem d_D_init_975 : decode c_D_init 975 = .ok (.iconst 5, 1) := by decide +kernel
theorem d_D_init_976 : decode c_D_init 976 = .ok (.iastore, 1) := by decide +kernel
theorem d_D_init_977 : decode c_D_init 977 = .ok (.dup, 1) := by decide +kernel
theorem d_D_init_978 : decode c_D_init 978 = .ok (.bipush 67, 2) := by decide +kernel
theorem d_D_init_980 : decode c_D_init 980 = .ok (.iconst 3, 1) := by decide +kernel
theorem d_D_init_981 : decode c_D_init 981 = .ok (.iastore, 1) := by decide +kernel
theorem d_D_init_982 : decode c_D_init 982 = .ok (.dup, 1) := by decide +kernel
theorem d_D_init_983 : decode c_D_init 983 = .ok (.bipush 68, 2) := by decide +kernel
theorem d_D_init_985 : decode c_D_init 985 = .ok (.iconst 5, 1) := by decide +kernel
theorem d_D_init_986 : decode c_D_init 986 = .ok (.iastore, 1) := by decide +kernel
theorem d_D_init_987 : decode c_D_init 987 = .ok (.dup, 1) := by decide +kernel
theorem d_D_init_988 : decode c_D_init 988 = .ok (.bipush 69, 2) := by decide +kernel
theorem d_D_init_990 : decode c_D_init 990 = .ok (.iconst 3, 1) := by decide +kernel
theorem d_D_init_991 : decode c_D_init 991 = .ok (.iastore, 1) := by decide +kernel
theorem d_D_init_992 : decode c_D_init 992 = .ok (.dup, 1) := by decide +kernel
theorem d_D_init_993 : decode c_D_init 993 = .ok (.bipush 70, 2) := by decide +kernel
theorem d_D_init_995 : decode c_D_init 995 = .ok (.iconst 5, 1) := by decide +kernel
theorem d_D_init_996 : decode c_D_init 996 = .ok (.iastore, 1) := by decide +kernel
theorem d_D_init_997 : decode c_D_init 997 = .ok (.dup, 1) := by decide +kernel
theorem d_D_init_998 : decode c_D_init 998 = .ok (.bipush 71, 2) := by decide +kernel
theorem d_D_init_1000 : decode c_D_init 1000 = .ok (.iconst 3, 1) := by decide +kernel
theorem d_D_init_1001 : decode c_D_init 1001 = .ok (.iastore, 1) := by decide +kernel
theorem d_D_init_1002 : decode c_D_init 1002 = .ok (.dup, 1) := by decide +kernel
theorem d_D_init_1003 : decode c_D_init 1003 = .ok (.bipush 72, 2) := by decide +kernel
theorem d_D_init_1005 : decode c_D_init 1005 = .ok (.iconst 5, 1) := by decide +kernel
theorem d_D_init_1006 : decode c_D_init 1006 = .ok (.iastore, 1) := by decide +kernel
theorem d_D_init_1007 : decode c_D_init 1007 = .ok (.dup, 1) := by decide +kernel
theorem d_D_init_1008 : decode c_D_init 1008 = .ok (.bipush 73, 2) := by decide +kernel
theorem d_D_init_1010 : decode c_D_init 1010 = .ok (.iconst 3, 1) := by decide +kernel
theorem d_D_init_1011 : decode c_D_init 1011 = .ok (.iastore, 1) := by decide +kernel
theorem d_D_init_1012 : decode c_D_init 1012 = .ok (.dup, 1) := by decide +kernel
theorem d_D_init_1013 : decode c_D_init 1013 = .ok (.bipush 74, 2) := by decide +kernel
theorem d_D_init_1015 : decode c_D_init 1015 = .ok (.iconst 5, 1) := by decide +kernel
theorem d_D_init_1016 : decode c_D_init 1016 = .ok (.iastore, 1) := by decide +kernel
theorem d_D_init_1017 : decode c_D_init 1017 = .ok (.dup, 1) := by decide +kernel
theorem d_D_init_1018 : decode c_D_init 1018 = .ok (.bipush 75, 2) := by decide +kernel
theorem d_D_init_1020 : decode c_D_init 1020 = .ok (.iconst 3, 1) := by decide +kernel
theorem d_D_init_1021 : decode c_D_init 1021 = .ok (.iastore, 1) := by decide +kernel
theorem d_D_init_1022 : decode c_D_init 1022 = .ok (.dup, 1) := by decide +kernel
theorem d_D_init_1023 : decode c_D_init 1023 = .ok (.bipush 76, 2) := by decide +kernel
theorem d_D_init_1025 : decode c_D_init 1025 = .ok (.iconst 5, 1) := by decide +kernel
theorem d_D_init_1026 : decode c_D_init 1026 = .ok (.iastore, 1) := by decide +kernel
theorem d_D_init_1027 : decode c_D_init 1027 = .ok (.dup, 1) := by decide +kernel
theorem d_D_init_1028 : decode c_D_init 1028 = .ok (.bipush 77, 2) := by decide +kernel
theorem d_D_init_1030 : decode c_D_init 1030 = .ok (.iconst 3, 1) := by decide +kernel
theorem d_D_init_1031 : decode c_D_init 1031 = .ok (.iastore, 1) := by decide +kernel
theorem d_D_init_1032 : decode c_D_init 1032 = .ok (.dup, 1) := by decide +kernel
theorem d_D_init_1033 : decode c_D_init 1033 = .ok (.bipush 78, 2) := by decide +kernel
theorem d_D_init_1035 : decode c_D_init 1035 = .ok (.iconst 0, 1) := by decide +kernel
theorem d_D_init_1036 : decode c_D_init 1036 = .ok (.iastore, 1) := by decide +kernel
theorem d_D_init_1037 : decode c_D_init 1037 = .ok (.dup, 1) := by decide +kernel
theorem d_D_init_1038 : decode c_D_init 1038 = .ok (.bipush 79, 2) := by decide +kernel
theorem d_D_init_1040 : decode c_D_init 1040 = .ok (.iconst 0, 1) := by decide +kernel
theorem d_D_init_1041 : decode c_D_init 1041 = .ok (.iastore, 1) := by decide +kernel
theorem d_D_init_1042 : decode c_D_init 1042 = .ok (.dup, 1) := by decide +kernel
theorem d_D_init_1043 : decode c_D_init 1043 = .ok (.bipush 80, 2) := by decide +kernel
theorem d_D_init_1045 : decode c_D_init 1045 = .ok (.iconst 0, 1) := by decide +kernel
theorem d_D_init_1046 : decode c_D_init 1046 = .ok (.iastore, 1) := by decide +kernel
theorem d_D_init_1047 : decode c_D_init 1047 = .ok (.dup, 1) := by decide +kernel
theorem d_D_init_1048 : decode c_D_init 1048 = .ok (.bipush 81, 2) := by decide +kernel
theorem d_D_init_1050 : decode c_D_init 1050 = .ok (.iconst 0, 1) := by decide +kernel
theorem d_D_init_1051 : decode c_D_init 1051 = .ok (.iastore, 1) := by decide +kernel
theorem d_D_init_1052 : decode c_D_init 1052 = .ok (.dup, 1) := by decide +kernel
theorem d_D_init_1053 : decode c_D_init 1053 = .ok (.bipush 82, 2) := by decide +kernel
theorem d_D_init_1055 : decode c_D_init 1055 = .ok (.iconst 0, 1) := by decide +kernel
theorem d_D_init_1056 : decode c_D_init 1056 = .ok (.iastore, 1) := by decide +kernel
theorem d_D_init_1057 : decode c_D_init 1057 = .ok (.dup, 1) := by decide +kernel
theorem d_D_init_1058 : decode c_D_init 1058 = .ok (.bipush 83, 2) := by decide +kernel
theorem d_D_init_1060 : decode c_D_init 1060 = .ok (.iconst 0, 1) := by decide +kernel
theorem d_D_init_1061 : decode c_D_init 1061 = .ok (.iastore, 1) := by decide +kernel
theorem d_D_init_1062 : decode c_D_init 1062 = .ok (.dup, 1) := by decide +kernel
theorem d_D_init_1063 : decode c_D_init 1063 = .ok (.bipush 84, 2) := by decide +kernel
theorem d_D_init_1065 : decode c_D_init 1065 = .ok (.iconst 0, 1) := by decide +kernel
theorem d_D_init_1066 : decode c_D_init 1066 = .ok (.iastore, 1) := by decide +kernel
theorem d_D_init_1067 : decode c_D_init 1067 = .ok (.dup, 1) := by decide +kernel
theorem d_D_init_1068 : decode c_D_init 1068 = .ok (.bipush 85, 2) := by decide +kernel
theorem d_D_init_1070 : decode c_D_init 1070 = .ok (.iconst 0, 1) := by decide +kernel
theorem d_D_init_1071 : decode c_D_init 1071 = .ok (.iastore, 1) := by decide +kernel
theorem d_D_init_1072 : decode c_D_init 1072 = .ok (.dup, 1) := by decide +kernel
theorem d_D_init_1073 : decode c_D_init 1073 = .ok (.bipush 86, 2) := by decide +kernel
theorem d_D_init_1075 : decode c_D_init 1075 = .ok (.bipush 6, 2) := by decide +kernel
theorem d_D_init_1077 : decode c_D_init 1077 = .ok (.iastore, 1) := by decide +kernel
theorem d_D_init_1078 : decode c_D_init 1078 = .ok (.dup, 1) := by decide +kernel
theorem d_D_init_1079 : decode c_D_init 1079 = .ok (.bipush 87, 2) := by decide +kernel
theorem d_D_init_1081 : decode c_D_init 1081 = .ok (.bipush 6, 2) := by decide +kernel
theorem d_D_init_1083 : decode c_D_init 1083 = .ok (.iastore, 1) := by decide +kernel
theorem d_D_init_1084 : decode c_D_init 1084 = .ok (.dup, 1) := by decide +kernel
theorem d_D_init_1085 : decode c_D_init 1085 = .ok (.bipush 88, 2) := by decide +kernel
theorem d_D_init_1087 : decode c_D_init 1087 = .ok (.bipush 6, 2) := by decide +kernel
theorem d_D_init_1089 : decode c_D_init 1089 = .ok (.iastore, 1) := by decide +kernel
theorem d_D_init_1090 : decode c_D_init 1090 = .ok (.dup, 1) := by decide +kernel
theorem d_D_init_1091 : decode c_D_init 1091 = .ok (.bipush 89, 2) := by decide +kernel
theorem d_D_init_1093 : decode c_D_init 1093 = .ok (.bipush 6, 2) := by decide +kernel
theorem d_D_init_1095 : decode c_D_init 1095 = .ok (.iastore, 1) := by decide +kernel
theorem d_D_init_1096 : decode c_D_init 1096 = .ok (.dup, 1) := by decide +kernel
theorem d_D_init_1097 : decode c_D_init 1097 = .ok (.bipush 90, 2) := by decide +kernel
theorem d_D_init_1099 : decode c_D_init 1099 = .ok (.bipush 7, 2) := by decide +kernel
theorem d_D_init_1101 : decode c_D_init 1101 = .ok (.iastore, 1) := by decide +kernel
theorem d_D_init_1102 : decode c_D_init 1102 = .ok (.putfield 195, 3) := by decide +kernel
theorem d_D_init_1105 : decode c_D_init 1105 = .ok (.aload_n 0, 1) := by decide +kernel
theorem d_D_init_1106 : decode c_D_init 1106 = .ok (.bipush 91, 2) := by decide +kernel
theorem d_D_init_1108 : decode c_D_init 1108 = .ok (.newarray .int, 2) := by decide +kernel
theorem d_D_init_1110 : decode c_D_init 1110 = .ok (.dup, 1) := by decide +kernel
theorem d_D_init_1111 : decode c_D_init 1111 = .ok (.iconst 0, 1) := by decide +kernel
theorem d_D_init_1112 : decode c_D_init 1112 = .ok (.sipush 128, 3) := by decide +kernel
theorem d_D_init_1115 : decode c_D_init 1115 = .ok (.iastore, 1) := by decide +kernel
theorem d_D_init_1116 : decode c_D_init 1116 = .ok (.dup, 1) := by decide +kernel
theorem d_D_init_1117 : decode c_D_init 1117 = .ok (.iconst 1, 1) := by decide +kernel
theorem d_D_init_1118 : decode c_D_init 1118 = .ok (.sipush 144, 3) := by decide +kernel
theorem d_D_init_1121 : decode c_D_init 1121 = .ok (.iastore, 1) := by decide +kernel
theorem d_D_init_1122 : decode c_D_init 1122 = .ok (.dup, 1) := by decide +kernel
theorem d_D_init_1123 : decode c_D_init 1123 = .ok (.iconst 2, 1) := by decide +kernel
theorem d_D_init_1124 : decode c_D_init 1124 = .ok (.sipush 129, 3) := by decide +kernel
theorem d_D_init_1127 : decode c_D_init 1127 = .ok (.iastore, 1) := by decide +kernel
theorem d_D_init_1128 : decode c_D_init 1128 = .ok (.dup, 1) := by decide +kernel
theorem d_D_init_1129 : decode c_D_init 1129 = .ok (.iconst 3, 1) := by decide +kernel
theorem d_D_init_1130 : decode c_D_init 1130 = .ok (.sipush 145, 3) := by decide +kernel
theorem d_D_init_1133 : decode c_D_init 1133 = .ok (.iastore, 1) := by decide +kernel
theorem d_D_init_1134 : decode c_D_init 1134 = .ok (.dup, 1) := by decide +kernel
theorem d_D_init_1135 : decode c_D_init 1135 = .ok (.iconst 4, 1) := by decide +kernel
theorem d_D_init_1136 : decode c_D_init 1136 = .ok (.sipush 130, 3) := by decide +kernel
theorem d_D_init_1139 : decode c_D_init 1139 = .ok (.iastore, 1) := by decide +kernel
theorem d_D_init_1140 : decode c_D_init 1140 = .ok (.dup, 1) := by decide +kernel
theorem d_D_init_1141 : decode c_D_init 1141 = .ok (.iconst 5, 1) := by decide +kernel
theorem d_D_init_1142 : decode c_D_init 1142 = .ok (.sipush 146, 3) := by decide +kernel
theorem d_D_init_1145 : decode c_D_init 1145 = .ok (.iastore, 1) := by decide +kernel
theorem d_D_init_1146 : decode c_D_init 1146 = .ok (.dup, 1) := by decide +kernel
theorem d_D_init_1147 : decode c_D_init 1147 = .ok (.bipush 6, 2) := by decide +kernel
theorem d_D_init_1149 : decode c_D_init 1149 = .ok (.sipush 131, 3) := by decide +kernel
theorem d_D_init_1152 : decode c_D_init 1152 = .ok (.iastore, 1) := by decide +kernel
theorem d_D_init_1153 : decode c_D_init 1153 = .ok (.dup, 1) := by decide +kernel
theorem d_D_init_1154 : decode c_D_init 1154 = .ok (.bipush 7, 2) := by decide +kernel
theorem d_D_init_1156 : decode c_D_init 1156 = .ok (.sipush 147, 3) := by decide +kernel
theorem d_D_init_1159 : decode c_D_init 1159 = .ok (.iastore, 1) := by decide +kernel
theorem d_D_init_1160 : decode c_D_init 1160 = .ok (.dup, 1) := by decide +kernel
theorem d_D_init_1161 : decode c_D_init 1161 = .ok (.bipush 8, 2) := by decide +kernel
theorem d_D_init_1163 : decode c_D_init 1163 = .ok (.sipush 132, 3) := by decide +kernel
theorem d_D_init_1166 : decode c_D_init 1166 = .ok (.iastore, 1) := by decide +kernel
theorem d_D_init_1167 : decode c_D_init 1167 = .ok (.dup, 1) := by decide +kernel
theorem d_D_init_1168 : decode c_D_init 1168 = .ok (.bipush 9, 2) := by decide +kernel
theorem d_D_init_1170 : decode c_D_init 1170 = .ok (.sipush 148, 3) := by decide +kernel
theorem d_D_init_1173 : decode c_D_init 1173 = .ok (.iastore, 1) := by decide +kernel
theorem d_D_init_1174 : decode c_D_init 1174 = .ok (.dup, 1) := by decide +kernel
theorem d_D_init_1175 : decode c_D_init 1175 = .ok (.bipush 10, 2) := by decide +kernel
theorem d_D_init_1177 : decode c_D_init 1177 = .ok (.sipush 133, 3) := by decide +kernel
theorem d_D_init_1180 : decode c_D_init 1180 = .ok (.iastore, 1) := by decide +kernel
theorem d_D_init_1181 : decode c_D_init 1181 = .ok (.dup, 1) := by decide +kernel
theorem d_D_init_1182 : decode c_D_init 1182 = .ok (.bipush 11, 2) := by decide +kernel
theorem d_D_init_1184 : decode c_D_init 1184 = .ok (.sipush 149, 3) := by decide +kernel
theorem d_D_init_1187 : decode c_D_init 1187 = .ok (.iastore, 1) := by decide +kernel
theorem d_D_init_1188 : decode c_D_init 1188 = .ok (.dup, 1) := by decide +kernel
theorem d_D_init_1189 : decode c_D_init 1189 = .ok (.bipush 12, 2) := by decide +kernel
theorem d_D_init_1191 : decode c_D_init 1191 = .ok (.sipush 134, 3) := by decide +kernel
theorem d_D_init_1194 : decode c_D_init 1194 = .ok (.iastore, 1) := by decide +kernel
theorem d_D_init_1195 : decode c_D_init 1195 = .ok (.dup, 1) := by decide +kernel
theorem d_D_init_1196 : decode c_D_init 1196 = .ok (.bipush 13, 2) := by decide +kernel
theorem d_D_init_1198 : decode c_D_init 1198 = .ok (.sipush 150, 3) := by decide +kernel
theorem d_D_init_1201 : decode c_D_init 1201 = .ok (.iastore, 1) := by decide +kernel
theorem d_D_init_1202 : decode c_D_init 1202 = .ok (.dup, 1) := by decide +kernel
theorem d_D_init_1203 : decode c_D_init 1203 = .ok (.bipush 14, 2) := by decide +kernel
theorem d_D_init_1205 : decode c_D_init 1205 = .ok (.sipush 135, 3) := by decide +kernel
theorem d_D_init_1208 : decode c_D_init 1208 = .ok (.iastore, 1) := by decide +kernel
theorem d_D_init_1209 : decode c_D_init 1209 = .ok (.dup, 1) := by decide +kernel
theorem d_D_init_1210 : decode c_D_init 1210 = .ok (.bipush 15, 2) := by decide +kernel
theorem d_D_init_1212 : decode c_D_init 1212 = .ok (.sipush 151, 3) := by decide +kernel
theorem d_D_init_1215 : decode c_D_init 1215 = .ok (.iastore, 1) := by decide +kernel
theorem d_D_init_1216 : decode c_D_init 1216 = .ok (.dup, 1) := by decide +kernel
theorem d_D_init_1217 : decode c_D_init 1217 = .ok (.bipush 16, 2) := by decide +kernel
theorem d_D_init_1219 : decode c_D_init 1219 = .ok (.sipush 136, 3) := by decide +kernel
theorem d_D_init_1222 : decode c_D_init 1222 = .ok (.iastore, 1) := by decide +kernel
theorem d_D_init_1223 : decode c_D_init 1223 = .ok (.dup, 1) := by decide +kernel
theorem d_D_init_1224 : decode c_D_init 1224 = .ok (.bipush 17, 2) := by decide +kernel
theorem d_D_init_1226 : decode c_D_init 1226 = .ok (.sipush 152, 3) := by decide +kernel
theorem d_D_init_1229 : decode c_D_init 1229 = .ok (.iastore, 1) := by decide +kernel
theorem d_D_init_1230 : decode c_D_init 1230 = .ok (.dup, 1) := by decide +kernel
theorem d_D_init_1231 : decode c_D_init 1231 = .ok (.bipush 18, 2) := by decide +kernel
theorem d_D_init_1233 : decode c_D_init 1233 = .ok (.sipush 140, 3) := by decide +kernel
theorem d_D_init_1236 : decode c_D_init 1236 = .ok (.iastore, 1) := by decide +kernel
theorem d_D_init_1237 : decode c_D_init 1237 = .ok (.dup, 1) := by decide +kernel
theorem d_D_init_1238 : decode c_D_init 1238 = .ok (.bipush 19, 2) := by decide +kernel
theorem d_D_init_1240 : decode c_D_init 1240 = .ok (.sipush 156, 3) := by decide +kernel
theorem d_D_init_1243 : decode c_D_init 1243 = .ok (.iastore, 1) := by decide +kernel
theorem d_D_init_1244 : decode c_D_init 1244 = .ok (.dup, 1) := by decide +kernel
theorem d_D_init_1245 : decode c_D_init 1245 = .ok (.bipush 20, 2) := by decide +kernel
theorem d_D_init_1247 : decode c_D_init 1247 = .ok (.sipush 138, 3) := by decide +kernel
theorem d_D_init_1250 : decode c_D_init 1250 = .ok (.iastore, 1) := by decide +kernel
theorem d_D_init_1251 : decode c_D_init 1251 = .ok (.dup, 1) := by decide +kernel
theorem d_D_init_1252 : decode c_D_init 1252 = .ok (.bipush 21, 2) := by decide +kernel
theorem d_D_init_1254 : decode c_D_init 1254 = .ok (.sipush 154, 3) := by decide +kernel
theorem d_D_init_1257 : decode c_D_init 1257 = .ok (.iastore, 1) := by decide +kernel
theorem d_D_init_1258 : decode c_D_init 1258 = .ok (.dup, 1) := by decide +kernel
theorem d_D_init_1259 : decode c_D_init 1259 = .ok (.bipush 22, 2) := by decide +kernel
theorem d_D_init_1261 : decode c_D_init 1261 = .ok (.sipush 139, 3) := by decide +kernel
theorem d_D_init_1264 : decode c_D_init 1264 = .ok (.iastore, 1) := by decide +kernel
theorem d_D_init_1265 : decode c_D_init 1265 = .ok (.dup, 1) := by decide +kernel
theorem d_D_init_1266 : decode c_D_init 1266 = .ok (.bipush 23, 2) := by decide +kernel
theorem d_D_init_1268 : decode c_D_init 1268 = .ok (.sipush 155, 3) := by decide +kernel
theorem d_D_init_1271 : decode c_D_init 1271 = .ok (.iastore, 1) := by decide +kernel
theorem d_D_init_1272 : decode c_D_init 1272 = .ok (.dup, 1) := by decide +kernel
theorem d_D_init_1273 : decode c_D_init 1273 = .ok (.bipush 24, 2) := by decide +kernel
theorem d_D_init_1275 : decode c_D_init 1275 = .ok (.sipush 142, 3) := by decide +kernel
theorem d_D_init_1278 : decode c_D_init 1278 = .ok (.iastore, 1) := by decide +kernel
theorem d_D_init_1279 : decode c_D_init 1279 = .ok (.dup, 1) := by decide +kernel
theorem d_D_init_1280 : decode c_D_init 1280 = .ok (.bipush 25, 2) := by decide +kernel
theorem d_D_init_1282 : decode c_D_init 1282 = .ok (.sipush 158, 3) := by decide +kernel
theorem d_D_init_1285 : decode c_D_init 1285 = .ok (.iastore, 1) := by decide +kernel
theorem d_D_init_1286 : decode c_D_init 1286 = .ok (.dup, 1) := by decide +kernel
theorem d_D_init_1287 : decode c_D_init 1287 = .ok (.bipush 26, 2) := by decide +kernel
theorem d_D_init_1289 : decode c_D_init 1289 = .ok (.sipush 143, 3) := by decide +kernel
theorem d_D_init_1292 : decode c_D_init 1292 = .ok (.iastore, 1) := by decide +kernel
theorem d_D_init_1293 : decode c_D_init 1293 = .ok (.dup, 1) := by decide +kernel
theorem d_D_init_1294 : decode c_D_init 1294 = .ok (.bipush 27, 2) := by decide +kernel
theorem d_D_init_1296 : decode c_D_init 1296 = .ok (.sipush 159, 3) := by decide +kernel
theorem d_D_init_1299 : decode c_D_init 1299 = .ok (.iastore, 1) := by decide +kernel
theorem d_D_init_1300 : decode c_D_init 1300 = .ok (.dup, 1) := by decide +kernel
theorem d_D_init_1301 : decode c_D_init 1301 = .ok (.bipush 28, 2) := by decide +kernel
theorem d_D_init_1303 : decode c_D_init 1303 = .ok (.sipush 164, 3) := by decide +kernel
theorem d_D_init_1306 : decode c_D_init 1306 = .ok (.iastore, 1) := by decide +kernel
theorem d_D_init_1307 : decode c_D_init 1307 = .ok (.dup, 1) := by decide +kernel
theorem d_D_init_1308 : decode c_D_init 1308 = .ok (.bipush 29, 2) := by decide +kernel
theorem d_D_init_1310 : decode c_D_init 1310 = .ok (.sipush 165, 3) := by decide +kernel
theorem d_D_init_1313 : decode c_D_init 1313 = .ok (.iastore, 1) := by decide +kernel
theorem d_D_init_1314 : decode c_D_init 1314 = .ok (.dup, 1) := by decide +kernel
theorem d_D_init_1315 : decode c_D_init 1315 = .ok (.bipush 30, 2) := by decide +kernel
theorem d_D_init_1317 : decode c_D_init 1317 = .ok (.sipush 166, 3) := by decide +kernel
theorem d_D_init_1320 : decode c_D_init 1320 = .ok (.iastore, 1) := by decide +kernel
theorem d_D_init_1321 : decode c_D_init 1321 = .ok (.dup, 1) := by decide +kernel
theorem d_D_init_1322 : decode c_D_init 1322 = .ok (.bipush 31, 2) := by decide +kernel
theorem d_D_init_1324 : decode c_D_init 1324 = .ok (.sipush 167, 3) := by decide +kernel
theorem d_D_init_1327 : decode c_D_init 1327 = .ok (.iastore, 1) := by decide +kernel
theorem d_D_init_1328 : decode c_D_init 1328 = .ok (.dup, 1) := by decide +kernel
theorem d_D_init_1329 : decode c_D_init 1329 = .ok (.bipush 32, 2) := by decide +kernel
theorem d_D_init_1331 : decode c_D_init 1331 = .ok (.sipush 184, 3) := by decide +kernel
theorem d_D_init_1334 : decode c_D_init 1334 = .ok (.iastore, 1) := by decide +kernel
theorem d_D_init_1335 : decode c_D_init 1335 = .ok (.dup, 1) := by decide +kernel
theorem d_D_init_1336 : decode c_D_init 1336 = .ok (.bipush 33, 2) := by decide +kernel
theorem d_D_init_1338 : decode c_D_init 1338 = .ok (.sipush 188, 3) := by decide +kernel
theorem d_D_init_1341 : decode c_D_init 1341 = .ok (.iastore, 1) := by decide +kernel
theorem d_D_init_1342 : decode c_D_init 1342 = .ok (.dup, 1) := by decide +kernel
theorem d_D_init_1343 : decode c_D_init 1343 = .ok (.bipush 34, 2) := by decide +kernel
theorem d_D_init_1345 : decode c_D_init 1345 = .ok (.sipush 189, 3) := by decide +kernel
theorem d_D_init_1348 : decode c_D_init 1348 = .ok (.iastore, 1) := by decide +kernel
theorem d_D_init_1349 : decode c_D_init 1349 = .ok (.dup, 1) := by decide +kernel
theorem d_D_init_1350 : decode c_D_init 1350 = .ok (.bipush 35, 2) := by decide +kernel
theorem d_D_init_1352 : decode c_D_init 1352 = .ok (.iconst 0, 1) := by decide +kernel
theorem d_D_init_1353 : decode c_D_init 1353 = .ok (.iastore, 1) := by decide +kernel
theorem d_D_init_1354 : decode c_D_init 1354 = .ok (.dup, 1) := by decide +kernel
theorem d_D_init_1355 : decode c_D_init 1355 = .ok (.bipush 36, 2) := by decide +kernel
theorem d_D_init_1357 : decode c_D_init 1357 = .ok (.bipush 40, 2) := by decide +kernel
theorem d_D_init_1359 : decode c_D_init 1359 = .ok (.iastore, 1) := by decide +kernel
theorem d_D_init_1360 : decode c_D_init 1360 = .ok (.dup, 1) := by decide +kernel
theorem d_D_init_1361 : decode c_D_init 1361 = .ok (.bipush 37, 2) := by decide +kernel
theorem d_D_init_1363 : decode c_D_init 1363 = .ok (.bipush 41, 2) := by decide +kernel
theorem d_D_init_1365 : decode c_D_init 1365 = .ok (.iastore, 1) := by decide +kernel
theorem d_D_init_1366 : decode c_D_init 1366 = .ok (.dup, 1) := by decide +kernel
theorem d_D_init_1367 : decode c_D_init 1367 = .ok (.bipush 38, 2) := by decide +kernel
theorem d_D_init_1369 : decode c_D_init 1369 = .ok (.bipush 42, 2) := by decide +kernel
theorem d_D_init_1371 : decode c_D_init 1371 = .ok (.iastore, 1) := by decide +kernel
theorem d_D_init_1372 : decode c_D_init 1372 = .ok (.dup, 1) := by decide +kernel
theorem d_D_init_1373 : decode c_D_init 1373 = .ok (.bipush 39, 2) := by decide +kernel
theorem d_D_init_1375 : decode c_D_init 1375 = .ok (.bipush 43, 2) := by decide +kernel
theorem d_D_init_1377 : decode c_D_init 1377 = .ok (.iastore, 1) := by decide +kernel
theorem d_D_init_1378 : decode c_D_init 1378 = .ok (.dup, 1) := by decide +kernel
theorem d_D_init_1379 : decode c_D_init 1379 = .ok (.bipush 40, 2) := by decide +kernel
theorem d_D_init_1381 : decode c_D_init 1381 = .ok (.sipush 1536, 3) := by decide +kernel
theorem d_D_init_1384 : decode c_D_init 1384 = .ok (.iastore, 1) := by decide +kernel
theorem d_D_init_1385 : decode c_D_init 1385 = .ok (.dup, 1) := by decide +kernel
theorem d_D_init_1386 : decode c_D_init 1386 = .ok (.bipush 41, 2) := by decide +kernel
theorem d_D_init_1388 : decode c_D_init 1388 = .ok (.sipush 1568, 3) := by decide +kernel
theorem d_D_init_1391 : decode c_D_init 1391 = .ok (.iastore, 1) := by decide +kernel
theorem d_D_init_1392 : decode c_D_init 1392 = .ok (.dup, 1) := by decide +kernel
theorem d_D_init_1393 : decode c_D_init 1393 = .ok (.bipush 42, 2) := by decide +kernel
theorem d_D_init_1395 : decode c_D_init 1395 = .ok (.sipush 1600, 3) := by decide +kernel
theorem d_D_init_1398 : decode c_D_init 1398 = .ok (.iastore, 1) := by decide +kernel
theorem d_D_init_1399 : decode c_D_init 1399 = .ok (.dup, 1) := by decide +kernel
theorem d_D_init_1400 : decode c_D_init 1400 = .ok (.bipush 43, 2) := by decide +kernel
theorem d_D_init_1402 : decode c_D_init 1402 = .ok (.sipush 1632, 3) := by decide +kernel
theorem d_D_init_1405 : decode c_D_init 1405 = .ok (.iastore, 1) := by decide +kernel
theorem d_D_init_1406 : decode c_D_init 1406 = .ok (.dup, 1) := by decide +kernel
theorem d_D_init_1407 : decode c_D_init 1407 = .ok (.bipush 44, 2) := by decide +kernel
theorem d_D_init_1409 : decode c_D_init 1409 = .ok (.sipush 1824, 3) := by decide +kernel
theorem d_D_init_1412 : decode c_D_init 1412 = .ok (.iastore, 1) := by decide +kernel
theorem d_D_init_1413 : decode c_D_init 1413 = .ok (.dup, 1) := by decide +kernel
theorem d_D_init_1414 : decode c_D_init 1414 = .ok (.bipush 45, 2) := by decide +kernel
theorem d_D_init_1416 : decode c_D_init 1416 = .ok (.iconst 0, 1) := by decide +kernel
theorem d_D_init_1417 : decode c_D_init 1417 = .ok (.iastore, 1) := by decide +kernel
theorem d_D_init_1418 : decode c_D_init 1418 = .ok (.dup, 1) := by decide +kernel
theorem d_D_init_1419 : decode c_D_init 1419 = .ok (.bipush 46, 2) := by decide +kernel
theorem d_D_init_1421 : decode c_D_init 1421 = .ok (.iconst 0, 1) := by decide +kernel
theorem d_D_init_1422 : decode c_D_init 1422 = .ok (.iastore, 1) := by decide +kernel
theorem d_D_init_1423 : decode c_D_init 1423 = .ok (.dup, 1) := by decide +kernel
theorem d_D_init_1424 : decode c_D_init 1424 = .ok (.bipush 47, 2) := by decide +kernel
theorem d_D_init_1426 : decode c_D_init 1426 = .ok (.sipush 1856, 3) := by decide +kernel
theorem d_D_init_1429 : decode c_D_init 1429 = .ok (.iastore, 1) := by decide +kernel
theorem d_D_init_1430 : decode c_D_init 1430 = .ok (.dup, 1) := by decide +kernel
theorem d_D_init_1431 : decode c_D_init 1431 = .ok (.bipush 48, 2) := by decide +kernel
theorem d_D_init_1433 : decode c_D_init 1433 = .ok (.iconst 1, 1) := by decide +kernel
theorem d_D_init_1434 : decode c_D_init 1434 = .ok (.iastore, 1) := by decide +kernel
theorem d_D_init_1435 : decode c_D_init 1435 = .ok (.dup, 1) := by decide +kernel
theorem d_D_init_1436 : decode c_D_init 1436 = .ok (.bipush 49, 2) := by decide +kernel
theorem d_D_init_1438 : decode c_D_init 1438 = .ok (.sipush 1857, 3) := by decide +kernel
theorem d_D_init_1441 : decode c_D_init 1441 = .ok (.iastore, 1) := by decide +kernel
theorem d_D_init_1442 : decode c_D_init 1442 = .ok (.dup, 1) := by decide +kernel
theorem d_D_init_1443 : decode c_D_init 1443 = .ok (.bipush 50, 2) := by decide +kernel
theorem d_D_init_1445 : decode c_D_init 1445 = .ok (.iconst 2, 1) := by decide +kernel
theorem d_D_init_1446 : decode c_D_init 1446 = .ok (.iastore, 1) := by decide +kernel
theorem d_D_init_1447 : decode c_D_init 1447 = .ok (.dup, 1) := by decide +kernel
theorem d_D_init_1448 : decode c_D_init 1448 = .ok (.bipush 51, 2) := by decide +kernel
theorem d_D_init_1450 : decode c_D_init 1450 = .ok (.sipush 1858, 3) := by decide +kernel
theorem d_D_init_1453 : decode c_D_init 1453 = .ok (.iastore, 1) := by decide +kernel
theorem d_D_init_1454 : decode c_D_init 1454 = .ok (.dup, 1) := by decide +kernel
theorem d_D_init_1455 : decode c_D_init 1455 = .ok (.bipush 52, 2) := by decide +kernel
theorem d_D_init_1457 : decode c_D_init 1457 = .ok (.iconst 3, 1) := by decide +kernel
theorem d_D_init_1458 : decode c_D_init 1458 = .ok (.iastore, 1) := by decide +kernel
theorem d_D_init_1459 : decode c_D_init 1459 = .ok (.dup, 1) := by decide +kernel
theorem d_D_init_1460 : decode c_D_init 1460 = .ok (.bipush 53, 2) := by decide +kernel
theorem d_D_init_1462 : decode c_D_init 1462 = .ok (.sipush 1859, 3) := by decide +kernel
theorem d_D_init_1465 : decode c_D_init 1465 = .ok (.iastore, 1) := by decide +kernel
theorem d_D_init_1466 : decode c_D_init 1466 = .ok (.dup, 1) := by decide +kernel
theorem d_D_init_1467 : decode c_D_init 1467 = .ok (.bipush 54, 2) := by decide +kernel
theorem d_D_init_1469 : decode c_D_init 1469 = .ok (.iconst 4, 1) := by decide +kernel
theorem d_D_init_1470 : decode c_D_init 1470 = .ok (.iastore, 1) := by decide +kernel
theorem d_D_init_1471 : decode c_D_init 1471 = .ok (.dup, 1) := by decide +kernel
theorem d_D_init_1472 : decode c_D_init 1472 = .ok (.bipush 55, 2) := by decide +kernel
theorem d_D_init_1474 : decode c_D_init 1474 = .ok (.sipush 1860, 3) := by decide +kernel
theorem d_D_init_1477 : decode c_D_init 1477 = .ok (.iastore, 1) := by decide +kernel
theorem d_D_init_1478 : decode c_D_init 1478 = .ok (.dup, 1) := by decide +kernel
theorem d_D_init_1479 : decode c_D_init 1479 = .ok (.bipush 56, 2) := by decide +kernel
theorem d_D_init_1481 : decode c_D_init 1481 = .ok (.iconst 5, 1) := by decide +kernel
theorem d_D_init_1482 : decode c_D_init 1482 = .ok (.iastore, 1) := by decide +kernel
theorem d_D_init_1483 : decode c_D_init 1483 = .ok (.dup, 1) := by decide +kernel
theorem d_D_init_1484 : decode c_D_init 1484 = .ok (.bipush 57, 2) := by decide +kernel
theorem d_D_init_1486 : decode c_D_init 1486 = .ok (.sipush 1861, 3) := by decide +kernel
theorem d_D_init_1489 : decode c_D_init 1489 = .ok (.iastore, 1) := by decide +kernel
theorem d_D_init_1490 : decode c_D_init 1490 = .ok (.dup, 1) := by decide +kernel
theorem d_D_init_1491 : decode c_D_init 1491 = .ok (.bipush 58, 2) := by decide +kernel
theorem d_D_init_1493 : decode c_D_init 1493 = .ok (.bipush 6, 2) := by decide +kernel
theorem d_D_init_1495 : decode c_D_init 1495 = .ok (.iastore, 1) := by decide +kernel
theorem d_D_init_1496 : decode c_D_init 1496 = .ok (.dup, 1) := by decide +kernel
theorem d_D_init_1497 : decode c_D_init 1497 = .ok (.bipush 59, 2) := by decide +kernel
theorem d_D_init_1499 : decode c_D_init 1499 = .ok (.sipush 1862, 3) := by decide +kernel
theorem d_D_init_1502 : decode c_D_init 1502 = .ok (.iastore, 1) := by decide +kernel
theorem d_D_init_1503 : decode c_D_init 1503 = .ok (.dup, 1) := by decide +kernel
theorem d_D_init_1504 : decode c_D_init 1504 = .ok (.bipush 60, 2) := by decide +kernel
theorem d_D_init_1506 : decode c_D_init 1506 = .ok (.bipush 7, 2) := by decide +kernel
theorem d_D_init_1508 : decode c_D_init 1508 = .ok (.iastore, 1) := by decide +kernel
theorem d_D_init_1509 : decode c_D_init 1509 = .ok (.dup, 1) := by decide +kernel
theorem d_D_init_1510 : decode c_D_init 1510 = .ok (.bipush 61, 2) := by decide +kernel
theorem d_D_init_1512 : decode c_D_init 1512 = .ok (.sipush 1863, 3) := by decide +kernel
theorem d_D_init_1515 : decode c_D_init 1515 = .ok (.iastore, 1) := by decide +kernel
theorem d_D_init_1516 : decode c_D_init 1516 = .ok (.dup, 1) := by decide +kernel
theorem d_D_init_1517 : decode c_D_init 1517 = .ok (.bipush 62, 2) := by decide +kernel
theorem d_D_init_1519 : decode c_D_init 1519 = .ok (.bipush 8, 2) := by decide +kernel
theorem d_D_init_1521 : decode c_D_init 1521 = .ok (.iastore, 1) := by decide +kernel
theorem d_D_init_1522 : decode c_D_init 1522 = .ok (.dup, 1) := by decide +kernel
theorem d_D_init_1523 : decode c_D_init 1523 = .ok (.bipush 63, 2) := by decide +kernel
theorem d_D_init_1525 : decode c_D_init 1525 = .ok (.sipush 1864, 3) := by decide +kernel
theorem d_D_init_1528 : decode c_D_init 1528 = .ok (.iastore, 1) := by decide +kernel
theorem d_D_init_1529 : decode c_D_init 1529 = .ok (.dup, 1) := by decide +kernel
theorem d_D_init_1530 : decode c_D_init 1530 = .ok (.bipush 64, 2) := by decide +kernel
theorem d_D_init_1532 : decode c_D_init 1532 = .ok (.bipush 9, 2) := by decide +kernel
theorem d_D_init_1534 : decode c_D_init 1534 = .ok (.iastore, 1) := by decide +kernel
theorem d_D_init_1535 : decode c_D_init 1535 = .ok (.dup, 1) := by decide +kernel
theorem d_D_init_1536 : decode c_D_init 1536 = .ok (.bipush 65, 2) := by decide +kernel
theorem d_D_init_1538 : decode c_D_init 1538 = .ok (.sipush 1865, 3) := by decide +kernel
theorem d_D_init_1541 : decode c_D_init 1541 = .ok (.iastore, 1) := by decide +kernel
theorem d_D_init_1542 : decode c_D_init 1542 = .ok (.dup, 1) := by decide +kernel
theorem d_D_init_1543 : decode c_D_init 1543 = .ok (.bipush 66, 2) := by decide +kernel
theorem d_D_init_1545 : decode c_D_init 1545 = .ok (.bipush 10, 2) := by decide +kernel
theorem d_D_init_1547 : decode c_D_init 1547 = .ok (.iastore, 1) := by decide +kernel
theorem d_D_init_1548 : decode c_D_init 1548 = .ok (.dup, 1) := by decide +kernel
theorem d_D_init_1549 : decode c_D_init 1549 = .ok (.bipush 67, 2) := by decide +kernel
theorem d_D_init_1551 : decode c_D_init 1551 = .ok (.sipush 1866, 3) := by decide +kernel
theorem d_D_init_1554 : decode c_D_init 1554 = .ok (.iastore, 1) := by decide +kernel
theorem d_D_init_1555 : decode c_D_init 1555 = .ok (.dup, 1) := by decide +kernel
theorem d_D_init_1556 : decode c_D_init 1556 = .ok (.bipush 68, 2) := by decide +kernel
theorem d_D_init_1558 : decode c_D_init 1558 = .ok (.bipush 11, 2) := by decide +kernel
theorem d_D_init_1560 : decode c_D_init 1560 = .ok (.iastore, 1) := by decide +kernel
theorem d_D_init_1561 : decode c_D_init 1561 = .ok (.dup, 1) := by decide +kernel
theorem d_D_init_1562 : decode c_D_init 1562 = .ok (.bipush 69, 2) := by decide +kernel
theorem d_D_init_1564 : decode c_D_init 1564 = .ok (.sipush 1867, 3) := by decide +kernel
theorem d_D_init_1567 : decode c_D_init 1567 = .ok (.iastore, 1) := by decide +kernel
theorem d_D_init_1568 : decode c_D_init 1568 = .ok (.dup, 1) := by decide +kernel
theorem d_D_init_1569 : decode c_D_init 1569 = .ok (.bipush 70, 2) := by decide +kernel
theorem d_D_init_1571 : decode c_D_init 1571 = .ok (.bipush 12, 2) := by decide +kernel
theorem d_D_init_1573 : decode c_D_init 1573 = .ok (.iastore, 1) := by decide +kernel
theorem d_D_init_1574 : decode c_D_init 1574 = .ok (.dup, 1) := by decide +kernel
theorem d_D_init_1575 : decode c_D_init 1575 = .ok (.bipush 71, 2) := by decide +kernel
theorem d_D_init_1577 : decode c_D_init 1577 = .ok (.sipush 1868, 3) := by decide +kernel
theorem d_D_init_1580 : decode c_D_init 1580 = .ok (.iastore, 1) := by decide +kernel
theorem d_D_init_1581 : decode c_D_init 1581 = .ok (.dup, 1) := by decide +kernel
theorem d_D_init_1582 : decode c_D_init 1582 = .ok (.bipush 72, 2) := by decide +kernel
theorem d_D_init_1584 : decode c_D_init 1584 = .ok (.bipush 13, 2) := by decide +kernel
theorem d_D_init_1586 : decode c_D_init 1586 = .ok (.iastore, 1) := by decide +kernel
theorem d_D_init_1587 : decode c_D_init 1587 = .ok (.dup, 1) := by decide +kernel
theorem d_D_init_1588 : decode c_D_init 1588 = .ok (.bipush 73, 2) := by decide +kernel
theorem d_D_init_1590 : decode c_D_init 1590 = .ok (.sipush 1869, 3) := by decide +kernel
theorem d_D_init_1593 : decode c_D_init 1593 = .ok (.iastore, 1) := by decide +kernel
theorem d_D_init_1594 : decode c_D_init 1594 = .ok (.dup, 1) := by decide +kernel
theorem d_D_init_1595 : decode c_D_init 1595 = .ok (.bipush 74, 2) := by decide +kernel
theorem d_D_init_1597 : decode c_D_init 1597 = .ok (.bipush 14, 2) := by decide +kernel
theorem d_D_init_1599 : decode c_D_init 1599 = .ok (.iastore, 1) := by decide +kernel
theorem d_D_init_1600 : decode c_D_init 1600 = .ok (.dup, 1) := by decide +kernel
theorem d_D_init_1601 : decode c_D_init 1601 = .ok (.bipush 75, 2) := by decide +kernel
theorem d_D_init_1603 : decode c_D_init 1603 = .ok (.sipush 1870, 3) := by decide +kernel
theorem d_D_init_1606 : decode c_D_init 1606 = .ok (.iastore, 1) := by decide +kernel
theorem d_D_init_1607 : decode c_D_init 1607 = .ok (.dup, 1) := by decide +kernel
theorem d_D_init_1608 : decode c_D_init 1608 = .ok (.bipush 76, 2) := by decide +kernel
theorem d_D_init_1610 : decode c_D_init 1610 = .ok (.bipush 15, 2) := by decide +kernel
theorem d_D_init_1612 : decode c_D_init 1612 = .ok (.iastore, 1) := by decide +kernel
theorem d_D_init_1613 : decode c_D_init 1613 = .ok (.dup, 1) := by decide +kernel
theorem d_D_init_1614 : decode c_D_init 1614 = .ok (.bipush 77, 2) := by decide +kernel
theorem d_D_init_1616 : decode c_D_init 1616 = .ok (.sipush 1871, 3) := by decide +kernel
theorem d_D_init_1619 : decode c_D_init 1619 = .ok (.iastore, 1) := by decide +kernel
theorem d_D_init_1620 : decode c_D_init 1620 = .ok (.dup, 1) := by decide +kernel
theorem d_D_init_1621 : decode c_D_init 1621 = .ok (.bipush 78, 2) := by decide +kernel
theorem d_D_init_1623 : decode c_D_init 1623 = .ok (.sipush 192, 3) := by decide +kernel
theorem d_D_init_1626 : decode c_D_init 1626 = .ok (.iastore, 1) := by decide +kernel
theorem d_D_init_1627 : decode c_D_init 1627 = .ok (.dup, 1) := by decide +kernel
theorem d_D_init_1628 : decode c_D_init 1628 = .ok (.bipush 79, 2) := by decide +kernel
theorem d_D_init_1630 : decode c_D_init 1630 = .ok (.sipush 193, 3) := by decide +kernel
theorem d_D_init_1633 : decode c_D_init 1633 = .ok (.iastore, 1) := by decide +kernel
theorem d_D_init_1634 : decode c_D_init 1634 = .ok (.dup, 1) := by decide +kernel
theorem d_D_init_1635 : decode c_D_init 1635 = .ok (.bipush 80, 2) := by decide +kernel
theorem d_D_init_1637 : decode c_D_init 1637 = .ok (.sipush 194, 3) := by decide +kernel
theorem d_D_init_1640 : decode c_D_init 1640 = .ok (.iastore, 1) := by decide +kernel
theorem d_D_init_1641 : decode c_D_init 1641 = .ok (.dup, 1) := by decide +kernel
theorem d_D_init_1642 : decode c_D_init 1642 = .ok (.bipush 81, 2) := by decide +kernel
theorem d_D_init_1644 : decode c_D_init 1644 = .ok (.sipush 195, 3) := by decide +kernel
theorem d_D_init_1647 : decode c_D_init 1647 = .ok (.iastore, 1) := by decide +kernel
theorem d_D_init_1648 : decode c_D_init 1648 = .ok (.dup, 1) := by decide +kernel
theorem d_D_init_1649 : decode c_D_init 1649 = .ok (.bipush 82, 2) := by decide +kernel
theorem d_D_init_1651 : decode c_D_init 1651 = .ok (.sipush 201, 3) := by decide +kernel
theorem d_D_init_1654 : decode c_D_init 1654 = .ok (.iastore, 1) := by decide +kernel
theorem d_D_init_1655 : decode c_D_init 1655 = .ok (.dup, 1) := by decide +kernel
theorem d_D_init_1656 : decode c_D_init 1656 = .ok (.bipush 83, 2) := by decide +kernel
theorem d_D_init_1658 : decode c_D_init 1658 = .ok (.sipush 202, 3) := by decide +kernel
theorem d_D_init_1661 : decode c_D_init 1661 = .ok (.iastore, 1) := by decide +kernel
theorem d_D_init_1662 : decode c_D_init 1662 = .ok (.dup, 1) := by decide +kernel
theorem d_D_init_1663 : decode c_D_init 1663 = .ok (.bipush 84, 2) := by decide +kernel
theorem d_D_init_1665 : decode c_D_init 1665 = .ok (.sipush 205, 3) := by decide +kernel
theorem d_D_init_1668 : decode c_D_init 1668 = .ok (.iastore, 1) := by decide +kernel
theorem d_D_init_1669 : decode c_D_init 1669 = .ok (.dup, 1) := by decide +kernel
theorem d_D_init_1670 : decode c_D_init 1670 = .ok (.bipush 85, 2) := by decide +kernel
theorem d_D_init_1672 : decode c_D_init 1672 = .ok (.sipush 207, 3) := by decide +kernel
theorem d_D_init_1675 : decode c_D_init 1675 = .ok (.iastore, 1) := by decide +kernel
theorem d_D_init_1676 : decode c_D_init 1676 = .ok (.dup, 1) := by decide +kernel
theorem d_D_init_1677 : decode c_D_init 1677 = .ok (.bipush 86, 2) := by decide +kernel
theorem d_D_init_1679 : decode c_D_init 1679 = .ok (.sipush 196, 3) := by decide +kernel
theorem d_D_init_1682 : decode c_D_init 1682 = .ok (.iastore, 1) := by decide +kernel
theorem d_D_init_1683 : decode c_D_init 1683 = .ok (.dup, 1) := by decide +kernel
theorem d_D_init_1684 : decode c_D_init 1684 = .ok (.bipush 87, 2) := by decide +kernel
theorem d_D_init_1686 : decode c_D_init 1686 = .ok (.sipush 197, 3) := by decide +kernel
theorem d_D_init_1689 : decode c_D_init 1689 = .ok (.iastore, 1) := by decide +kernel
theorem d_D_init_1690 : decode c_D_init 1690 = .ok (.dup, 1) := by decide +kernel
theorem d_D_init_1691 : decode c_D_init 1691 = .ok (.bipush 88, 2) := by decide +kernel
theorem d_D_init_1693 : decode c_D_init 1693 = .ok (.sipush 198, 3) := by decide +kernel
theorem d_D_init_1696 : decode c_D_init 1696 = .ok (.iastore, 1) := by decide +kernel
theorem d_D_init_1697 : decode c_D_init 1697 = .ok (.dup, 1) := by decide +kernel
theorem d_D_init_1698 : decode c_D_init 1698 = .ok (.bipush 89, 2) := by decide +kernel
theorem d_D_init_1700 : decode c_D_init 1700 = .ok (.sipush 199, 3) := by decide +kernel
theorem d_D_init_1703 : decode c_D_init 1703 = .ok (.iastore, 1) := by decide +kernel
theorem d_D_init_1704 : decode c_D_init 1704 = .ok (.dup, 1) := by decide +kernel
theorem d_D_init_1705 : decode c_D_init 1705 = .ok (.bipush 90, 2) := by decide +kernel
theorem d_D_init_1707 : decode c_D_init 1707 = .ok (.iconst 0, 1) := by decide +kernel
theorem d_D_init_1708 : decode c_D_init 1708 = .ok (.iastore, 1) := by decide +kernel
theorem d_D_init_1709 : decode c_D_init 1709 = .ok (.putfield 199, 3) := by decide +kernel
theorem d_D_init_1712 : decode c_D_init 1712 = .ok (.aload_n 0, 1) := by decide +kernel
theorem d_D_init_1713 : decode c_D_init 1713 = .ok (.iconst (-1), 1) := by decide +kernel
theorem d_D_init_1714 : decode c_D_init 1714 = .ok (.putfield 202, 3) := by decide +kernel
theorem d_D_init_1717 : decode c_D_init 1717 = .ok (.aload_n 0, 1) := by decide +kernel
theorem d_D_init_1718 : decode c_D_init 1718 = .ok (.bipush 40, 2) := by decide +kernel
theorem d_D_init_1720 : decode c_D_init 1720 = .ok (.newarray .int, 2) := by decide +kernel
theorem d_D_init_1722 : decode c_D_init 1722 = .ok (.putfield 206, 3) := by decide +kernel
theorem d_D_init_1725 : decode c_D_init 1725 = .ok (.aload_n 0, 1) := by decide +kernel
theorem d_D_init_1726 : decode c_D_init 1726 = .ok (.sipush 1024, 3) := by decide +kernel
theorem d_D_init_1729 : decode c_D_init 1729 = .ok (.newarray .int, 2) := by decide +kernel
theorem d_D_init_1731 : decode c_D_init 1731 = .ok (.putfield 209, 3) := by decide +kernel
theorem d_D_init_1734 : decode c_D_init 1734 = .ok (.aload_n 0, 1) := by decide +kernel
theorem d_D_init_1735 : decode c_D_init 1735 = .ok (.bipush 8, 2) := by decide +kernel
theorem d_D_init_1737 : decode c_D_init 1737 = .ok (.newarray .int, 2) := by decide +kernel
theorem d_D_init_1739 : decode c_D_init 1739 = .ok (.putfield 212, 3) := by decide +kernel
theorem d_D_init_1742 : decode c_D_init 1742 = .ok (.aload_n 0, 1) := by decide +kernel
theorem d_D_init_1743 : decode c_D_init 1743 = .ok (.bipush 32, 2) := by decide +kernel
theorem d_D_init_1745 : decode c_D_init 1745 = .ok (.newarray .int, 2) := by decide +kernel
theorem d_D_init_1747 : decode c_D_init 1747 = .ok (.putfield 215, 3) := by decide +kernel
theorem d_D_init_1750 : decode c_D_init 1750 = .ok (.aload_n 0, 1) := by decide +kernel
theorem d_D_init_1751 : decode c_D_init 1751 = .ok (.bipush 32, 2) := by decide +kernel
theorem d_D_init_1753 : decode c_D_init 1753 = .ok (.newarray .int, 2) := by decide +kernel
theorem d_D_init_1755 : decode c_D_init 1755 = .ok (.putfield 218, 3) := by decide +kernel
theorem d_D_init_1758 : decode c_D_init 1758 = .ok (.aload_n 0, 1) := by decide +kernel
theorem d_D_init_1759 : decode c_D_init 1759 = .ok (.iconst (-1), 1) := by decide +kernel
theorem d_D_init_1760 : decode c_D_init 1760 = .ok (.putfield 221, 3) := by decide +kernel
theorem d_D_init_1763 : decode c_D_init 1763 = .ok (.aload_n 0, 1) := by decide +kernel
theorem d_D_init_1764 : decode c_D_init 1764 = .ok (.iconst 0, 1) := by decide +kernel
theorem d_D_init_1765 : decode c_D_init 1765 = .ok (.invokevirtual 224, 3) := by decide +kernel
theorem d_D_init_1768 : decode c_D_init 1768 = .ok (.return_, 1) := by decide +kernel
