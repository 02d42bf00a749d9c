theorem d_D_special_0 : decode c_D_special 0 = .ok (.iload_n 1, 1) := by decide +kernel
theorem d_D_special_1 : decode c_D_special 1 = .ok (.bipush 48, 2) := by decide +kernel
theorem d_D_special_3 : decode c_D_special 3 = .ok (.if_icmp .lt 7, 3) := by decide +kernel
theorem d_D_special_6 : decode c_D_special 6 = .ok (.iconst 1, 1) := by decide +kernel
theorem d_D_special_7 : decode c_D_special 7 = .ok (.goto 4, 3) := by decide +kernel
theorem d_D_special_10 : decode c_D_special 10 = .ok (.iconst 0, 1) := by decide +kernel
theorem d_D_special_11 : decode c_D_special 11 = .ok (.istore 6, 2) := by decide +kernel
theorem d_D_special_13 : decode c_D_special 13 = .ok (.iload_n 1, 1) := by decide +kernel
theorem d_D_special_14 : decode c_D_special 14 = .ok (.bipush 7, 2) := by decide +kernel
theorem d_D_special_16 : decode c_D_special 16 = .ok (.iand, 1) := by decide +kernel
theorem d_D_special_17 : decode c_D_special 17 = .ok (.istore 7, 2) := by decide +kernel
theorem d_D_special_19 : decode c_D_special 19 = .ok (.iload 4, 2) := by decide +kernel
theorem d_D_special_21 : decode c_D_special 21 = .ok (.iload 5, 2) := by decide +kernel
theorem d_D_special_23 : decode c_D_special 23 = .ok (.ixor, 1) := by decide +kernel
theorem d_D_special_24 : decode c_D_special 24 = .ok (.istore 8, 2) := by decide +kernel
theorem d_D_special_26 : decode c_D_special 26 = .ok (.aload_n 0, 1) := by decide +kernel
theorem d_D_special_27 : decode c_D_special 27 = .ok (.iload 7, 2) := by decide +kernel
theorem d_D_special_29 : decode c_D_special 29 = .ok (.ifCond .ne 20, 3) := by decide +kernel
theorem d_D_special_32 : decode c_D_special 32 = .ok (.iload 6, 2) := by decide +kernel
theorem d_D_special_34 : decode c_D_special 34 = .ok (.ifCond .eq 7, 3) := by decide +kernel
theorem d_D_special_37 : decode c_D_special 37 = .ok (.iload_n 2, 1) := by decide +kernel
theorem d_D_special_38 : decode c_D_special 38 = .ok (.goto 4, 3) := by decide +kernel
theorem d_D_special_41 : decode c_D_special 41 = .ok (.iload_n 3, 1) := by decide +kernel
theorem d_D_special_42 : decode c_D_special 42 = .ok (.ifCond .eq 7, 3) := by decide +kernel
theorem d_D_special_45 : decode c_D_special 45 = .ok (.iconst 1, 1) := by decide +kernel
theorem d_D_special_46 : decode c_D_special 46 = .ok (.goto 4, 3) := by decide +kernel
theorem d_D_special_49 : decode c_D_special 49 = .ok (.iconst 0, 1) := by decide +kernel
theorem d_D_special_50 : decode c_D_special 50 = .ok (.iconst 2, 1) := by decide +kernel
theorem d_D_special_51 : decode c_D_special 51 = .ok (.invokevirtual 334, 3) := by decide +kernel
theorem d_D_special_54 : decode c_D_special 54 = .ok (.aload_n 0, 1) := by decide +kernel
theorem d_D_special_55 : decode c_D_special 55 = .ok (.iload 7, 2) := by decide +kernel
theorem d_D_special_57 : decode c_D_special 57 = .ok (.ifCond .le 14, 3) := by decide +kernel
theorem d_D_special_60 : decode c_D_special 60 = .ok (.aload_n 0, 1) := by decide +kernel
theorem d_D_special_61 : decode c_D_special 61 = .ok (.getfield 268, 3) := by decide +kernel
theorem d_D_special_64 : decode c_D_special 64 = .ok (.ifCond .ne 7, 3) := by decide +kernel
theorem d_D_special_67 : decode c_D_special 67 = .ok (.iconst 1, 1) := by decide +kernel
theorem d_D_special_68 : decode c_D_special 68 = .ok (.goto 4, 3) := by decide +kernel
theorem d_D_special_71 : decode c_D_special 71 = .ok (.iconst 0, 1) := by decide +kernel
theorem d_D_special_72 : decode c_D_special 72 = .ok (.iconst 3, 1) := by decide +kernel
theorem d_D_special_73 : decode c_D_special 73 = .ok (.invokevirtual 334, 3) := by decide +kernel
theorem d_D_special_76 : decode c_D_special 76 = .ok (.aload_n 0, 1) := by decide +kernel
theorem d_D_special_77 : decode c_D_special 77 = .ok (.iload 6, 2) := by decide +kernel
theorem d_D_special_79 : decode c_D_special 79 = .ok (.ifCond .eq 22, 3) := by decide +kernel
theorem d_D_special_82 : decode c_D_special 82 = .ok (.iload 7, 2) := by decide +kernel
theorem d_D_special_84 : decode c_D_special 84 = .ok (.iconst 1, 1) := by decide +kernel
theorem d_D_special_85 : decode c_D_special 85 = .ok (.if_icmp .ne 16, 3) := by decide +kernel
theorem d_D_special_88 : decode c_D_special 88 = .ok (.iload 8, 2) := by decide +kernel
theorem d_D_special_90 : decode c_D_special 90 = .ok (.bipush 31, 2) := by decide +kernel
theorem d_D_special_92 : decode c_D_special 92 = .ok (.iand, 1) := by decide +kernel
theorem d_D_special_93 : decode c_D_special 93 = .ok (.iconst 3, 1) := by decide +kernel
theorem d_D_special_94 : decode c_D_special 94 = .ok (.if_icmp .le 7, 3) := by decide +kernel
theorem d_D_special_97 : decode c_D_special 97 = .ok (.iconst 1, 1) := by decide +kernel
theorem d_D_special_98 : decode c_D_special 98 = .ok (.goto 4, 3) := by decide +kernel
theorem d_D_special_101 : decode c_D_special 101 = .ok (.iconst 0, 1) := by decide +kernel
theorem d_D_special_102 : decode c_D_special 102 = .ok (.iconst 2, 1) := by decide +kernel
theorem d_D_special_103 : decode c_D_special 103 = .ok (.invokevirtual 334, 3) := by decide +kernel
theorem d_D_special_106 : decode c_D_special 106 = .ok (.aload_n 0, 1) := by decide +kernel
theorem d_D_special_107 : decode c_D_special 107 = .ok (.getfield 312, 3) := by decide +kernel
theorem d_D_special_110 : decode c_D_special 110 = .ok (.ifCond .lt 4, 3) := by decide +kernel
theorem d_D_special_113 : decode c_D_special 113 = .ok (.return_, 1) := by decide +kernel
theorem d_D_special_114 : decode c_D_special 114 = .ok (.iload 6, 2) := by decide +kernel
theorem d_D_special_116 : decode c_D_special 116 = .ok (.ifCond .ne 55, 3) := by decide +kernel
theorem d_D_special_119 : decode c_D_special 119 = .ok (.aload_n 0, 1) := by decide +kernel
theorem d_D_special_120 : decode c_D_special 120 = .ok (.iload_n 2, 1) := by decide +kernel
theorem d_D_special_121 : decode c_D_special 121 = .ok (.aload_n 0, 1) := by decide +kernel
theorem d_D_special_122 : decode c_D_special 122 = .ok (.getfield 237, 3) := by decide +kernel
theorem d_D_special_125 : decode c_D_special 125 = .ok (.iload 7, 2) := by decide +kernel
theorem d_D_special_127 : decode c_D_special 127 = .ok (.ifCond .ne 10, 3) := by decide +kernel
theorem d_D_special_130 : decode c_D_special 130 = .ok (.aload_n 0, 1) := by decide +kernel
theorem d_D_special_131 : decode c_D_special 131 = .ok (.getfield 240, 3) := by decide +kernel
theorem d_D_special_134 : decode c_D_special 134 = .ok (.goto 33, 3) := by decide +kernel
theorem d_D_special_137 : decode c_D_special 137 = .ok (.iload 7, 2) := by decide +kernel
theorem d_D_special_139 : decode c_D_special 139 = .ok (.iconst 1, 1) := by decide +kernel
theorem d_D_special_140 : decode c_D_special 140 = .ok (.if_icmp .ne 10, 3) := by decide +kernel
theorem d_D_special_143 : decode c_D_special 143 = .ok (.aload_n 0, 1) := by decide +kernel
theorem d_D_special_144 : decode c_D_special 144 = .ok (.invokevirtual 366, 3) := by decide +kernel
theorem d_D_special_147 : decode c_D_special 147 = .ok (.goto 20, 3) := by decide +kernel
theorem d_D_special_150 : decode c_D_special 150 = .ok (.iload 7, 2) := by decide +kernel
theorem d_D_special_152 : decode c_D_special 152 = .ok (.iconst 2, 1) := by decide +kernel
theorem d_D_special_153 : decode c_D_special 153 = .ok (.if_icmp .ne 10, 3) := by decide +kernel
theorem d_D_special_156 : decode c_D_special 156 = .ok (.aload_n 0, 1) := by decide +kernel
theorem d_D_special_157 : decode c_D_special 157 = .ok (.getfield 243, 3) := by decide +kernel
theorem d_D_special_160 : decode c_D_special 160 = .ok (.goto 7, 3) := by decide +kernel
theorem d_D_special_163 : decode c_D_special 163 = .ok (.aload_n 0, 1) := by decide +kernel
theorem d_D_special_164 : decode c_D_special 164 = .ok (.getfield 246, 3) := by decide +kernel
theorem d_D_special_167 : decode c_D_special 167 = .ok (.invokevirtual 309, 3) := by decide +kernel
theorem d_D_special_170 : decode c_D_special 170 = .ok (.return_, 1) := by decide +kernel
theorem d_D_special_171 : decode c_D_special 171 = .ok (.iload 7, 2) := by decide +kernel
theorem d_D_special_173 : decode c_D_special 173 = .ok (.ifCond .ne 12, 3) := by decide +kernel
theorem d_D_special_176 : decode c_D_special 176 = .ok (.aload_n 0, 1) := by decide +kernel
theorem d_D_special_177 : decode c_D_special 177 = .ok (.iload 8, 2) := by decide +kernel
theorem d_D_special_179 : decode c_D_special 179 = .ok (.putfield 240, 3) := by decide +kernel
theorem d_D_special_182 : decode c_D_special 182 = .ok (.goto 187, 3) := by decide +kernel
theorem d_D_special_185 : decode c_D_special 185 = .ok (.iload 7, 2) := by decide +kernel
theorem d_D_special_187 : decode c_D_special 187 = .ok (.iconst 2, 1) := by decide +kernel
theorem d_D_special_188 : decode c_D_special 188 = .ok (.if_icmp .ne 15, 3) := by decide +kernel
theorem d_D_special_191 : decode c_D_special 191 = .ok (.aload_n 0, 1) := by decide +kernel
theorem d_D_special_192 : decode c_D_special 192 = .ok (.iload 8, 2) := by decide +kernel
theorem d_D_special_194 : decode c_D_special 194 = .ok (.bipush 15, 2) := by decide +kernel
theorem d_D_special_196 : decode c_D_special 196 = .ok (.iand, 1) := by decide +kernel
theorem d_D_special_197 : decode c_D_special 197 = .ok (.putfield 243, 3) := by decide +kernel
theorem d_D_special_200 : decode c_D_special 200 = .ok (.goto 169, 3) := by decide +kernel
theorem d_D_special_203 : decode c_D_special 203 = .ok (.iload 7, 2) := by decide +kernel
theorem d_D_special_205 : decode c_D_special 205 = .ok (.iconst 3, 1) := by decide +kernel
theorem d_D_special_206 : decode c_D_special 206 = .ok (.if_icmp .ne 16, 3) := by decide +kernel
theorem d_D_special_209 : decode c_D_special 209 = .ok (.aload_n 0, 1) := by decide +kernel
theorem d_D_special_210 : decode c_D_special 210 = .ok (.iload 8, 2) := by decide +kernel
theorem d_D_special_212 : decode c_D_special 212 = .ok (.sipush (-4096), 3) := by decide +kernel
theorem d_D_special_215 : decode c_D_special 215 = .ok (.iand, 1) := by decide +kernel
theorem d_D_special_216 : decode c_D_special 216 = .ok (.putfield 246, 3) := by decide +kernel
theorem d_D_special_219 : decode c_D_special 219 = .ok (.goto 150, 3) := by decide +kernel
theorem d_D_special_222 : decode c_D_special 222 = .ok (.aload_n 0, 1) := by decide +kernel
theorem d_D_special_223 : decode c_D_special 223 = .ok (.iload 8, 2) := by decide +kernel
theorem d_D_special_225 : decode c_D_special 225 = .ok (.bipush 23, 2) := by decide +kernel
theorem d_D_special_227 : decode c_D_special 227 = .ok (.ishr, 1) := by decide +kernel
theorem d_D_special_228 : decode c_D_special 228 = .ok (.iconst 1, 1) := by decide +kernel
theorem d_D_special_229 : decode c_D_special 229 = .ok (.iand, 1) := by decide +kernel
theorem d_D_special_230 : decode c_D_special 230 = .ok (.iconst 1, 1) := by decide +kernel
theorem d_D_special_231 : decode c_D_special 231 = .ok (.if_icmp .ne 7, 3) := by decide +kernel
theorem d_D_special_234 : decode c_D_special 234 = .ok (.iconst 1, 1) := by decide +kernel
theorem d_D_special_235 : decode c_D_special 235 = .ok (.goto 4, 3) := by decide +kernel
theorem d_D_special_238 : decode c_D_special 238 = .ok (.iconst 0, 1) := by decide +kernel
theorem d_D_special_239 : decode c_D_special 239 = .ok (.putfield 255, 3) := by decide +kernel
theorem d_D_special_242 : decode c_D_special 242 = .ok (.aload_n 0, 1) := by decide +kernel
theorem d_D_special_243 : decode c_D_special 243 = .ok (.iload 8, 2) := by decide +kernel
theorem d_D_special_245 : decode c_D_special 245 = .ok (.bipush 22, 2) := by decide +kernel
theorem d_D_special_247 : decode c_D_special 247 = .ok (.ishr, 1) := by decide +kernel
theorem d_D_special_248 : decode c_D_special 248 = .ok (.iconst 1, 1) := by decide +kernel
theorem d_D_special_249 : decode c_D_special 249 = .ok (.iand, 1) := by decide +kernel
theorem d_D_special_250 : decode c_D_special 250 = .ok (.iconst 1, 1) := by decide +kernel
theorem d_D_special_251 : decode c_D_special 251 = .ok (.if_icmp .ne 7, 3) := by decide +kernel
theorem d_D_special_254 : decode c_D_special 254 = .ok (.iconst 1, 1) := by decide +kernel
theorem d_D_special_255 : decode c_D_special 255 = .ok (.goto 4, 3) := by decide +kernel
theorem d_D_special_258 : decode c_D_special 258 = .ok (.iconst 0, 1) := by decide +kernel
theorem d_D_special_259 : decode c_D_special 259 = .ok (.putfield 259, 3) := by decide +kernel
theorem d_D_special_262 : decode c_D_special 262 = .ok (.aload_n 0, 1) := by decide +kernel
theorem d_D_special_263 : decode c_D_special 263 = .ok (.iload 8, 2) := by decide +kernel
theorem d_D_special_265 : decode c_D_special 265 = .ok (.bipush 21, 2) := by decide +kernel
theorem d_D_special_267 : decode c_D_special 267 = .ok (.ishr, 1) := by decide +kernel
theorem d_D_special_268 : decode c_D_special 268 = .ok (.iconst 1, 1) := by decide +kernel
theorem d_D_special_269 : decode c_D_special 269 = .ok (.iand, 1) := by decide +kernel
theorem d_D_special_270 : decode c_D_special 270 = .ok (.iconst 1, 1) := by decide +kernel
theorem d_D_special_271 : decode c_D_special 271 = .ok (.if_icmp .ne 7, 3) := by decide +kernel
theorem d_D_special_274 : decode c_D_special 274 = .ok (.iconst 1, 1) := by decide +kernel
theorem d_D_special_275 : decode c_D_special 275 = .ok (.goto 4, 3) := by decide +kernel
theorem d_D_special_278 : decode c_D_special 278 = .ok (.iconst 0, 1) := by decide +kernel
theorem d_D_special_279 : decode c_D_special 279 = .ok (.putfield 262, 3) := by decide +kernel
theorem d_D_special_282 : decode c_D_special 282 = .ok (.aload_n 0, 1) := by decide +kernel
theorem d_D_special_283 : decode c_D_special 283 = .ok (.iload 8, 2) := by decide +kernel
theorem d_D_special_285 : decode c_D_special 285 = .ok (.bipush 20, 2) := by decide +kernel
theorem d_D_special_287 : decode c_D_special 287 = .ok (.ishr, 1) := by decide +kernel
theorem d_D_special_288 : decode c_D_special 288 = .ok (.iconst 1, 1) := by decide +kernel
theorem d_D_special_289 : decode c_D_special 289 = .ok (.iand, 1) := by decide +kernel
theorem d_D_special_290 : decode c_D_special 290 = .ok (.iconst 1, 1) := by decide +kernel
theorem d_D_special_291 : decode c_D_special 291 = .ok (.if_icmp .ne 7, 3) := by decide +kernel
theorem d_D_special_294 : decode c_D_special 294 = .ok (.iconst 1, 1) := by decide +kernel
theorem d_D_special_295 : decode c_D_special 295 = .ok (.goto 4, 3) := by decide +kernel
theorem d_D_special_298 : decode c_D_special 298 = .ok (.iconst 0, 1) := by decide +kernel
theorem d_D_special_299 : decode c_D_special 299 = .ok (.putfield 265, 3) := by decide +kernel
theorem d_D_special_302 : decode c_D_special 302 = .ok (.aload_n 0, 1) := by decide +kernel
theorem d_D_special_303 : decode c_D_special 303 = .ok (.iload 8, 2) := by decide +kernel
theorem d_D_special_305 : decode c_D_special 305 = .ok (.bipush 7, 2) := by decide +kernel
theorem d_D_special_307 : decode c_D_special 307 = .ok (.ishr, 1) := by decide +kernel
theorem d_D_special_308 : decode c_D_special 308 = .ok (.iconst 1, 1) := by decide +kernel
theorem d_D_special_309 : decode c_D_special 309 = .ok (.iand, 1) := by decide +kernel
theorem d_D_special_310 : decode c_D_special 310 = .ok (.iconst 1, 1) := by decide +kernel
theorem d_D_special_311 : decode c_D_special 311 = .ok (.if_icmp .ne 7, 3) := by decide +kernel
theorem d_D_special_314 : decode c_D_special 314 = .ok (.iconst 1, 1) := by decide +kernel
theorem d_D_special_315 : decode c_D_special 315 = .ok (.goto 4, 3) := by decide +kernel
theorem d_D_special_318 : decode c_D_special 318 = .ok (.iconst 0, 1) := by decide +kernel
theorem d_D_special_319 : decode c_D_special 319 = .ok (.putfield 268, 3) := by decide +kernel
theorem d_D_special_322 : decode c_D_special 322 = .ok (.aload_n 0, 1) := by decide +kernel
theorem d_D_special_323 : decode c_D_special 323 = .ok (.iload 8, 2) := by decide +kernel
theorem d_D_special_325 : decode c_D_special 325 = .ok (.bipush 6, 2) := by decide +kernel
theorem d_D_special_327 : decode c_D_special 327 = .ok (.ishr, 1) := by decide +kernel
theorem d_D_special_328 : decode c_D_special 328 = .ok (.iconst 1, 1) := by decide +kernel
theorem d_D_special_329 : decode c_D_special 329 = .ok (.iand, 1) := by decide +kernel
theorem d_D_special_330 : decode c_D_special 330 = .ok (.iconst 1, 1) := by decide +kernel
theorem d_D_special_331 : decode c_D_special 331 = .ok (.if_icmp .ne 7, 3) := by decide +kernel
theorem d_D_special_334 : decode c_D_special 334 = .ok (.iconst 1, 1) := by decide +kernel
theorem d_D_special_335 : decode c_D_special 335 = .ok (.goto 4, 3) := by decide +kernel
theorem d_D_special_338 : decode c_D_special 338 = .ok (.iconst 0, 1) := by decide +kernel
theorem d_D_special_339 : decode c_D_special 339 = .ok (.putfield 271, 3) := by decide +kernel
theorem d_D_special_342 : decode c_D_special 342 = .ok (.aload_n 0, 1) := by decide +kernel
theorem d_D_special_343 : decode c_D_special 343 = .ok (.iload 8, 2) := by decide +kernel
theorem d_D_special_345 : decode c_D_special 345 = .ok (.iconst 5, 1) := by decide +kernel
theorem d_D_special_346 : decode c_D_special 346 = .ok (.ishr, 1) := by decide +kernel
theorem d_D_special_347 : decode c_D_special 347 = .ok (.iconst 1, 1) := by decide +kernel
theorem d_D_special_348 : decode c_D_special 348 = .ok (.iand, 1) := by decide +kernel
theorem d_D_special_349 : decode c_D_special 349 = .ok (.iconst 1, 1) := by decide +kernel
theorem d_D_special_350 : decode c_D_special 350 = .ok (.if_icmp .ne 7, 3) := by decide +kernel
theorem d_D_special_353 : decode c_D_special 353 = .ok (.iconst 1, 1) := by decide +kernel
theorem d_D_special_354 : decode c_D_special 354 = .ok (.goto 4, 3) := by decide +kernel
theorem d_D_special_357 : decode c_D_special 357 = .ok (.iconst 0, 1) := by decide +kernel
theorem d_D_special_358 : decode c_D_special 358 = .ok (.putfield 274, 3) := by decide +kernel
theorem d_D_special_361 : decode c_D_special 361 = .ok (.aload_n 0, 1) := by decide +kernel
theorem d_D_special_362 : decode c_D_special 362 = .ok (.iload 8, 2) := by decide +kernel
theorem d_D_special_364 : decode c_D_special 364 = .ok (.iconst 3, 1) := by decide +kernel
theorem d_D_special_365 : decode c_D_special 365 = .ok (.iand, 1) := by decide +kernel
theorem d_D_special_366 : decode c_D_special 366 = .ok (.putfield 237, 3) := by decide +kernel
theorem d_D_special_369 : decode c_D_special 369 = .ok (.return_, 1) := by decide +kernel
theorem kd_D_special : (y_D_special).cls = "WindowMachineModel" ∧ (y_D_special).cls ≠ "java/lang/invoke/MethodHandle" ∧ (y_D_special).cls ≠ "java/lang/invoke/VarHandle" ∧ (parseMethodDescriptor (y_D_special).desc).map (fun d => d.parameters.length) = some 5 := by decide +kernel
def m_special (st : SD) (p0 : Int32) (p1 : Int32) (p2 : Int32) (p3 : Int32) (p4 : Int32) : SD := (let x_1 := (if p0 < (48 : Int32) then (0 : Int32) else (1 : Int32)); (let x_4 := (if (p0 &&& (7 : Int32)) = (0 : Int32) then (if (if x_1 = (0 : Int32) then p2 else p1) = (0 : Int32) then (0 : Int32) else (1 : Int32)) else (0 : Int32)); (let u_11 := m_traps st x_4 (2 : Int32); (let x_12 := (if (p0 &&& (7 : Int32)) ≤ (0 : Int32) then (0 : Int32) else (if (u_11.1 17) = (0 : Int32) then (1 : Int32) else (0 : Int32))); (let u_16 := m_traps u_11 x_12 (3 : Int32); (let x_17 := (if x_1 = (0 : Int32) then (0 : Int32) else (if (p0 &&& (7 : Int32)) = (1 : Int32) then (if ((p3 ^^^ p4) &&& (31 : Int32)) ≤ (3 : Int32) then (0 : Int32) else (1 : Int32)) else (0 : Int32))); (let u_22 := m_traps u_16 x_17 (2 : Int32); (if (u_22.1 21) < (0 : Int32) then (if x_1 = (0 : Int32) then (let x_49 := (if (p0 &&& (7 : Int32)) = (0 : Int32) then u_22.1 7 else (if (p0 &&& (7 : Int32)) = (1 : Int32) then m_psr u_22 else (if (p0 &&& (7 : Int32)) = (2 : Int32) then u_22.1 8 else u_22.1 9))); (let u_55 := m_gives u_22 p1 (u_22.1 6) x_49; u_55)) else (if (p0 &&& (7 : Int32)) = (0 : Int32) then (upd u_22.1 7 (p3 ^^^ p4), u_22.2.1, u_22.2.2.1, u_22.2.2.2.1, u_22.2.2.2.2.1, u_22.2.2.2.2.2) else (if (p0 &&& (7 : Int32)) = (2 : Int32) then (upd u_22.1 8 ((p3 ^^^ p4) &&& (15 : Int32)), u_22.2.1, u_22.2.2.1, u_22.2.2.2.1, u_22.2.2.2.2.1, u_22.2.2.2.2.2) else (if (p0 &&& (7 : Int32)) = (3 : Int32) then (upd u_22.1 9 ((p3 ^^^ p4) &&& (-4096 : Int32)), u_22.2.1, u_22.2.2.1, u_22.2.2.2.1, u_22.2.2.2.2.1, u_22.2.2.2.2.2) else (let x_28 := (if (((p3 ^^^ p4) >>> ((23 : Int32) &&& 31)) &&& (1 : Int32)) = (1 : Int32) then (1 : Int32) else (0 : Int32)); (let x_31 := (if (((p3 ^^^ p4) >>> ((22 : Int32) &&& 31)) &&& (1 : Int32)) = (1 : Int32) then (1 : Int32) else (0 : Int32)); (let x_34 := (if (((p3 ^^^ p4) >>> ((21 : Int32) &&& 31)) &&& (1 : Int32)) = (1 : Int32) then (1 : Int32) else (0 : Int32)); (let x_37 := (if (((p3 ^^^ p4) >>> ((20 : Int32) &&& 31)) &&& (1 : Int32)) = (1 : Int32) then (1 : Int32) else (0 : Int32)); (let x_40 := (if (((p3 ^^^ p4) >>> ((7 : Int32) &&& 31)) &&& (1 : Int32)) = (1 : Int32) then (1 : Int32) else (0 : Int32)); (let x_43 := (if (((p3 ^^^ p4) >>> ((6 : Int32) &&& 31)) &&& (1 : Int32)) = (1 : Int32) then (1 : Int32) else (0 : Int32)); (let x_46 := (if (((p3 ^^^ p4) >>> ((5 : Int32) &&& 31)) &&& (1 : Int32)) = (1 : Int32) then (1 : Int32) else (0 : Int32)); (upd (upd (upd (upd (upd (upd (upd (upd u_22.1 13 x_28) 14 x_31) 15 x_34) 16 x_37) 17 x_40) 18 x_43) 19 x_46) 6 ((p3 ^^^ p4) &&& (3 : Int32)), u_22.2.1, u_22.2.2.1, u_22.2.2.2.1, u_22.2.2.2.2.1, u_22.2.2.2.2.2)))))))))))) else u_22))))))))
set_option maxHeartbeats 4000000 in
set_option maxRecDepth 100000 in
theorem mt_D_special (l : Launch) (D : va_G) (h : Nat → Nat) (c : Nat → ClassId) (sz : Nat) (st : SD) (p0 : Int32) (p1 : Int32) (p2 : Int32) (p3 : Int32) (p4 : Int32) (hV : okV st) (hr9 : vp_in p1 32) : Met l y_D_special w_D_special ({ frames := 2, cells := 0, slots := 0, locals := 40 }) (va_Pc [.ref (h 20), .int p0, .int p1, .int p2, .int p3, .int p4] (zw_pre D vwCl [(c 21, .long), (c 22, .int), (c 23, .int), (c 24, .int), (c 25, .int), (c 26, .int), (c 27, .int), (c 28, .int)] sz (wD h c st) (fun _ => True))) (va_Qv (fun (u : SD) => u = m_special st p0 p1 p2 p3 p4) (fun u t => zw_at D vwCl (va_A (wD h c st) sz) ((fun (u : SD) => wD h c u) u) t) (va_A (wD h c st) sz)) 0 0 (va_A (wD h c st) sz) := by
  refine zm (Qf := fun A => va_Qv (fun (u : SD) => u = m_special st p0 p1 p2 p3 p4) (fun u t => zw_at D vwCl A ((fun (u : SD) => wD h c u) u) t) A) (Zf := fun _ _ => True) (cc := c_D_special) (nL := 9) (ret := none) (by decide) rfl (Nat.le_of_ble_eq_true rfl) ?_
  intro p e s m below meth c9 A H locs ls hx hb hml hown hts hr hlocks hA hK hP hD hS hZ hl
  have hl : lv_has ls 9 [(0, .ref (h 20)), (1, .int p0), (2, .int p1), (3, .int p2), (4, .int p3), (5, .int p4)] := hl
  have ht : ∀ w9 ∈ zT, w9.before _ s = true := fun w9 h9 => hts w9 (List.mem_cons_of_mem _ h9)
  refine lv_iload_n hx hb d_D_special_0 rfl (lv_at hl 1 rfl) ?_
  refine lv_bipush (v := (48 : Int32)) hx hb d_D_special_1 (by decide) ?_
  refine zcut (X := Int32) (G := fun v9 H locs ls => v9 = (if p0 < (48 : Int32) then (0 : Int32) else (1 : Int32)) ∧ va_P D vwCl (wD h c st) H ∧ va_D A (wD h c st) ∧ va_S A s.heap H locs ∧ lv_has ls 9 [(0, .ref (h 20)), (1, .int p0), (2, .int p1), (3, .int p2), (4, .int p3), (5, .int p4)]) (fr := fun v9 ls => F0 m 11 ls [.int v9]) (fun J_2 => ?_) (fun v9 H locs ls hG => ?_)
  · refine lv_icmp_lt (tgt := 10) hx hb d_D_special_3 (by decide) (fun c_3 => ?_) (fun c_3 => ?_)
    · refine lv_iconst (v := (0 : Int32)) hx hb d_D_special_10 (by decide) ?_
      exact J_2 (0 : Int32) _ _ _ ⟨by simp only [if_pos c_3], hP, hD, hS, hl⟩
    refine lv_iconst (v := (1 : Int32)) hx hb d_D_special_6 (by decide) ?_
    refine lv_goto (tgt := 11) hx hb d_D_special_7 (by decide) ?_
    exact J_2 (1 : Int32) _ _ _ ⟨by simp only [if_neg c_3], hP, hD, hS, hl⟩
  obtain ⟨x_1, rfl⟩ : ∃ z, z = v9 := ⟨_, rfl⟩
  obtain ⟨ex_1, hP, hD, hS, hl⟩ := hG
  have zbx_1 : zB x_1 := by rw [ex_1]; repeat' first | with_reducible exact zB0 | with_reducible exact zB1 | with_reducible assumption | with_reducible refine zB_ite ?_ ?_
  refine lv_istore (lv' := [(6, .int x_1), (0, .ref (h 20)), (1, .int p0), (2, .int p1), (3, .int p2), (4, .int p3), (5, .int p4)]) hx hb d_D_special_11 hl (by decide) rfl (fun ls hl => ?_)
  refine lv_iload_n hx hb d_D_special_13 rfl (lv_at hl 2 rfl) ?_
  refine lv_bipush (v := (7 : Int32)) hx hb d_D_special_14 (by decide) ?_
  refine lv_iand hx hb d_D_special_16 ?_
  refine lv_istore (lv' := [(7, .int (p0 &&& (7 : Int32))), (6, .int x_1), (0, .ref (h 20)), (1, .int p0), (2, .int p1), (3, .int p2), (4, .int p3), (5, .int p4)]) hx hb d_D_special_17 hl (by decide) rfl (fun ls hl => ?_)
  refine lv_iload hx hb d_D_special_19 (lv_at hl 6 rfl) ?_
  refine lv_iload hx hb d_D_special_21 (lv_at hl 7 rfl) ?_
  refine lv_ixor hx hb d_D_special_23 ?_
  refine lv_istore (lv' := [(8, .int (p3 ^^^ p4)), (7, .int (p0 &&& (7 : Int32))), (6, .int x_1), (0, .ref (h 20)), (1, .int p0), (2, .int p1), (3, .int p2), (4, .int p3), (5, .int p4)]) hx hb d_D_special_24 hl (by decide) rfl (fun ls hl => ?_)
  refine lv_aload_n hx hb d_D_special_26 rfl (lv_at hl 3 rfl) ?_
  refine lv_iload hx hb d_D_special_27 (lv_at hl 1 rfl) ?_
  refine zcut (X := Int32) (G := fun v9 H locs ls => v9 = (if (p0 &&& (7 : Int32)) = (0 : Int32) then (if (if x_1 = (0 : Int32) then p2 else p1) = (0 : Int32) then (0 : Int32) else (1 : Int32)) else (0 : Int32)) ∧ va_P D vwCl (wD h c st) H ∧ va_D A (wD h c st) ∧ va_S A s.heap H locs ∧ lv_has ls 9 [(0, .ref (h 20)), (1, .int p0), (2, .int p1), (3, .int p2), (4, .int p3), (5, .int p4), (6, .int x_1), (7, .int (p0 &&& (7 : Int32))), (8, .int (p3 ^^^ p4))]) (fr := fun v9 ls => F0 m 50 ls [.int v9, .ref (h 20)]) (fun J_5 => ?_) (fun v9 H locs ls hG => ?_)
  · refine lv_if_ne (tgt := 49) hx hb d_D_special_29 (by decide) (fun c_6 => ?_) (fun c_6 => ?_)
    · refine lv_iconst (v := (0 : Int32)) hx hb d_D_special_49 (by decide) ?_
      exact J_5 (0 : Int32) _ _ _ ⟨by simp only [if_neg c_6], hP, hD, hS, (lv_sub hl [3, 4, 5, 6, 7, 8, 2, 1, 0] rfl)⟩
    refine lv_iload hx hb d_D_special_32 (lv_at hl 2 rfl) ?_
    refine zcut (X := Int32) (G := fun v9 H locs ls => v9 = (if x_1 = (0 : Int32) then p2 else p1) ∧ va_P D vwCl (wD h c st) H ∧ va_D A (wD h c st) ∧ va_S A s.heap H locs ∧ lv_has ls 9 [(0, .ref (h 20)), (1, .int p0), (2, .int p1), (3, .int p2), (4, .int p3), (5, .int p4), (6, .int x_1), (7, .int (p0 &&& (7 : Int32))), (8, .int (p3 ^^^ p4))]) (fr := fun v9 ls => F0 m 42 ls [.int v9, .ref (h 20)]) (fun J_8 => ?_) (fun v9 H locs ls hG => ?_)
    · refine lv_if_eq (tgt := 41) hx hb d_D_special_34 (by decide) (fun c_9 => ?_) (fun c_9 => ?_)
      · refine lv_iload_n hx hb d_D_special_41 rfl (lv_at hl 6 rfl) ?_
        exact J_8 p2 _ _ _ ⟨by simp only [if_pos c_9], hP, hD, hS, (lv_sub hl [3, 4, 5, 6, 7, 8, 2, 1, 0] rfl)⟩
      refine lv_iload_n hx hb d_D_special_37 rfl (lv_at hl 5 rfl) ?_
      refine lv_goto (tgt := 42) hx hb d_D_special_38 (by decide) ?_
      exact J_8 p1 _ _ _ ⟨by simp only [if_neg c_9], hP, hD, hS, (lv_sub hl [3, 4, 5, 6, 7, 8, 2, 1, 0] rfl)⟩
    obtain ⟨x_7, rfl⟩ : ∃ z, z = v9 := ⟨_, rfl⟩
    obtain ⟨ex_7, hP, hD, hS, hl⟩ := hG
    subst ex_7
    refine lv_if_eq (tgt := 49) hx hb d_D_special_42 (by decide) (fun c_10 => ?_) (fun c_10 => ?_)
    · refine lv_iconst (v := (0 : Int32)) hx hb d_D_special_49 (by decide) ?_
      exact J_5 (0 : Int32) _ _ _ ⟨by simp only [if_pos c_6, if_pos c_10], hP, hD, hS, hl⟩
    refine lv_iconst (v := (1 : Int32)) hx hb d_D_special_45 (by decide) ?_
    refine lv_goto (tgt := 50) hx hb d_D_special_46 (by decide) ?_
    exact J_5 (1 : Int32) _ _ _ ⟨by simp only [if_pos c_6, if_neg c_10], hP, hD, hS, hl⟩
  obtain ⟨x_4, rfl⟩ : ∃ z, z = v9 := ⟨_, rfl⟩
  obtain ⟨ex_4, hP, hD, hS, hl⟩ := hG
  have zbx_4 : zB x_4 := by rw [ex_4]; repeat' first | with_reducible exact zB0 | with_reducible exact zB1 | with_reducible assumption | with_reducible refine zB_ite ?_ ?_
  refine lv_iconst (v := (2 : Int32)) hx hb d_D_special_50 (by decide) ?_
  refine zc_v (w2 := fun u9 => wD h c u9) (va_runV (As := [.int x_4, .int (2 : Int32)]) (rest := []) ⟨hx, hb, hml, hown, ht⟩ (mt_D_traps l D h c H.size st x_4 (2 : Int32)) (cwV 2 ht (zgV zw_1007 zw_1009 zs_59 zw_7 zw_1010) rfl rfl rfl kd_D_traps ⟨Nat.le_of_ble_eq_true rfl, Nat.le_of_ble_eq_true rfl⟩) ⟨zw_blind zw_tt, va_recv (hK.sub (tys' := [(c 21, .long), (c 22, .int), (c 23, .int), (c 24, .int), (c 25, .int), (c 26, .int), (c 27, .int), (c 28, .int)]) [0, 1, 2, 3, 4, 5, 6, 7] rfl) (hP.sub (ws' := wD h c st) [0, 1, 2, 3, 4, 5, 6, 7, 8] rfl) (ci := 6) (q0 := 0) rfl rfl, zw_go (hP.sub (ws' := wD h c st) [0, 1, 2, 3, 4, 5, 6, 7, 8] rfl) (hD.sub (ws' := wD h c st) [0, 1, 2, 3, 4, 5, 6, 7, 8] (by decide) rfl) (hK.sub (tys' := [(c 21, .long), (c 22, .int), (c 23, .int), (c 24, .int), (c 25, .int), (c 26, .int), (c 27, .int), (c 28, .int)]) [0, 1, 2, 3, 4, 5, 6, 7] rfl) (fun _ _ _ => trivial)⟩ rfl rfl hl.1 rfl (lv_room (Nat.le_of_ble_eq_true rfl)) d_D_special_51 ⟨Nat.le_of_ble_eq_true rfl, Nat.le_of_ble_eq_true rfl⟩) hP hD hS hA [0, 1, 2, 3, 4, 5, 6, 7, 8] [] [0, 1, 2, 3, 4, 5, 6, 7, 8] rfl rfl (by decide) (by decide) (by decide) (fun _ => rfl) (fun u_11 H locs hw hP hD hS => ?_)
  have eu_11 := hw
  have ok_11 : okV u_11 := by rw [eu_11]; exact (ov_traps hV)
  refine lv_aload_n hx hb d_D_special_54 rfl (lv_at hl 0 rfl) ?_
  refine lv_iload hx hb d_D_special_55 (lv_at hl 7 rfl) ?_
  refine zcut (X := Int32) (G := fun v9 H locs ls => v9 = (if (p0 &&& (7 : Int32)) ≤ (0 : Int32) then (0 : Int32) else (if (u_11.1 17) = (0 : Int32) then (1 : Int32) else (0 : Int32))) ∧ va_P D vwCl (wD h c u_11) H ∧ va_D A (wD h c u_11) ∧ va_S A s.heap H locs ∧ lv_has ls 9 [(0, .ref (h 20)), (1, .int p0), (2, .int p1), (3, .int p2), (4, .int p3), (5, .int p4), (6, .int x_1), (7, .int (p0 &&& (7 : Int32))), (8, .int (p3 ^^^ p4))]) (fr := fun v9 ls => F0 m 72 ls [.int v9, .ref (h 20)]) (fun J_13 => ?_) (fun v9 H locs ls hG => ?_)
  · refine lv_if_le (tgt := 71) hx hb d_D_special_57 (by decide) (fun c_14 => ?_) (fun c_14 => ?_)
    · refine lv_iconst (v := (0 : Int32)) hx hb d_D_special_71 (by decide) ?_
      exact J_13 (0 : Int32) _ _ _ ⟨by simp only [if_pos c_14], hP, hD, hS, hl⟩
    refine lv_aload_n hx hb d_D_special_60 rfl (lv_at hl 0 rfl) ?_
    refine va_get (D := D) (ci := 6) (v := .int (u_11.1 17)) (C := "WindowMachineModel") (T := T_D) (N := 31) hx hb ht zi_D hown hK hP 0 rfl rfl 25 (by decide) (ht _ zw_879) (fun _ h9 => h9) rfl d_D_special_61 ?_
    refine lv_if_ne (tgt := 71) hx hb d_D_special_64 (by decide) (fun c_15 => ?_) (fun c_15 => ?_)
    · refine lv_iconst (v := (0 : Int32)) hx hb d_D_special_71 (by decide) ?_
      exact J_13 (0 : Int32) _ _ _ ⟨by simp only [if_neg c_14, if_neg c_15], hP, hD, hS, hl⟩
    refine lv_iconst (v := (1 : Int32)) hx hb d_D_special_67 (by decide) ?_
    refine lv_goto (tgt := 72) hx hb d_D_special_68 (by decide) ?_
    exact J_13 (1 : Int32) _ _ _ ⟨by simp only [if_neg c_14, if_pos c_15], hP, hD, hS, hl⟩
  obtain ⟨x_12, rfl⟩ : ∃ z, z = v9 := ⟨_, rfl⟩
  obtain ⟨ex_12, hP, hD, hS, hl⟩ := hG
  have zbx_12 : zB x_12 := by rw [ex_12]; repeat' first | with_reducible exact zB0 | with_reducible exact zB1 | with_reducible assumption | with_reducible refine zB_ite ?_ ?_
  refine lv_iconst (v := (3 : Int32)) hx hb d_D_special_72 (by decide) ?_
  refine zc_v (w2 := fun u9 => wD h c u9) (va_runV (As := [.int x_12, .int (3 : Int32)]) (rest := []) ⟨hx, hb, hml, hown, ht⟩ (mt_D_traps l D h c H.size u_11 x_12 (3 : Int32)) (cwV 2 ht (zgV zw_1007 zw_1009 zs_59 zw_7 zw_1010) rfl rfl rfl kd_D_traps ⟨Nat.le_of_ble_eq_true rfl, Nat.le_of_ble_eq_true rfl⟩) ⟨zw_blind zw_tt, va_recv (hK.sub (tys' := [(c 21, .long), (c 22, .int), (c 23, .int), (c 24, .int), (c 25, .int), (c 26, .int), (c 27, .int), (c 28, .int)]) [0, 1, 2, 3, 4, 5, 6, 7] rfl) (hP.sub (ws' := wD h c u_11) [0, 1, 2, 3, 4, 5, 6, 7, 8] rfl) (ci := 6) (q0 := 0) rfl rfl, zw_go (hP.sub (ws' := wD h c u_11) [0, 1, 2, 3, 4, 5, 6, 7, 8] rfl) (hD.sub (ws' := wD h c u_11) [0, 1, 2, 3, 4, 5, 6, 7, 8] (by decide) rfl) (hK.sub (tys' := [(c 21, .long), (c 22, .int), (c 23, .int), (c 24, .int), (c 25, .int), (c 26, .int), (c 27, .int), (c 28, .int)]) [0, 1, 2, 3, 4, 5, 6, 7] rfl) (fun _ _ _ => trivial)⟩ rfl rfl hl.1 rfl (lv_room (Nat.le_of_ble_eq_true rfl)) d_D_special_73 ⟨Nat.le_of_ble_eq_true rfl, Nat.le_of_ble_eq_true rfl⟩) hP hD hS hA [0, 1, 2, 3, 4, 5, 6, 7, 8] [] [0, 1, 2, 3, 4, 5, 6, 7, 8] rfl rfl (by decide) (by decide) (by decide) (fun _ => rfl) (fun u_16 H locs hw hP hD hS => ?_)
  have eu_16 := hw
  have ok_16 : okV u_16 := by rw [eu_16]; exact (ov_traps ok_11)
  refine lv_aload_n hx hb d_D_special_76 rfl (lv_at hl 0 rfl) ?_
  refine lv_iload hx hb d_D_special_77 (lv_at hl 6 rfl) ?_
  refine zcut (X := Int32) (G := fun v9 H locs ls => v9 = (if x_1 = (0 : Int32) then (0 : Int32) else (if (p0 &&& (7 : Int32)) = (1 : Int32) then (if ((p3 ^^^ p4) &&& (31 : Int32)) ≤ (3 : Int32) then (0 : Int32) else (1 : Int32)) else (0 : Int32))) ∧ va_P D vwCl (wD h c u_16) H ∧ va_D A (wD h c u_16) ∧ va_S A s.heap H locs ∧ lv_has ls 9 [(0, .ref (h 20)), (1, .int p0), (2, .int p1), (3, .int p2), (4, .int p3), (5, .int p4), (6, .int x_1), (7, .int (p0 &&& (7 : Int32))), (8, .int (p3 ^^^ p4))]) (fr := fun v9 ls => F0 m 102 ls [.int v9, .ref (h 20)]) (fun J_18 => ?_) (fun v9 H locs ls hG => ?_)
  · refine lv_if_eq (tgt := 101) hx hb d_D_special_79 (by decide) (fun c_19 => ?_) (fun c_19 => ?_)
    · refine lv_iconst (v := (0 : Int32)) hx hb d_D_special_101 (by decide) ?_
      exact J_18 (0 : Int32) _ _ _ ⟨by simp only [if_pos c_19], hP, hD, hS, hl⟩
    refine lv_iload hx hb d_D_special_82 (lv_at hl 7 rfl) ?_
    refine lv_iconst (v := (1 : Int32)) hx hb d_D_special_84 (by decide) ?_
    refine lv_icmp_ne (tgt := 101) hx hb d_D_special_85 (by decide) (fun c_20 => ?_) (fun c_20 => ?_)
    · refine lv_iconst (v := (0 : Int32)) hx hb d_D_special_101 (by decide) ?_
      exact J_18 (0 : Int32) _ _ _ ⟨by simp only [if_neg c_19, if_neg c_20], hP, hD, hS, hl⟩
    refine lv_iload hx hb d_D_special_88 (lv_at hl 8 rfl) ?_
    refine lv_bipush (v := (31 : Int32)) hx hb d_D_special_90 (by decide) ?_
    refine lv_iand hx hb d_D_special_92 ?_
    refine lv_iconst (v := (3 : Int32)) hx hb d_D_special_93 (by decide) ?_
    refine lv_icmp_le (tgt := 101) hx hb d_D_special_94 (by decide) (fun c_21 => ?_) (fun c_21 => ?_)
    · refine lv_iconst (v := (0 : Int32)) hx hb d_D_special_101 (by decide) ?_
      exact J_18 (0 : Int32) _ _ _ ⟨by simp only [if_neg c_19, if_pos c_20, if_pos c_21], hP, hD, hS, hl⟩
    refine lv_iconst (v := (1 : Int32)) hx hb d_D_special_97 (by decide) ?_
    refine lv_goto (tgt := 102) hx hb d_D_special_98 (by decide) ?_
    exact J_18 (1 : Int32) _ _ _ ⟨by simp only [if_neg c_19, if_pos c_20, if_neg c_21], hP, hD, hS, hl⟩
  obtain ⟨x_17, rfl⟩ : ∃ z, z = v9 := ⟨_, rfl⟩
  obtain ⟨ex_17, hP, hD, hS, hl⟩ := hG
  have zbx_17 : zB x_17 := by rw [ex_17]; repeat' first | with_reducible exact zB0 | with_reducible exact zB1 | with_reducible assumption | with_reducible refine zB_ite ?_ ?_
  refine lv_iconst (v := (2 : Int32)) hx hb d_D_special_102 (by decide) ?_
  refine zc_v (w2 := fun u9 => wD h c u9) (va_runV (As := [.int x_17, .int (2 : Int32)]) (rest := []) ⟨hx, hb, hml, hown, ht⟩ (mt_D_traps l D h c H.size u_16 x_17 (2 : Int32)) (cwV 2 ht (zgV zw_1007 zw_1009 zs_59 zw_7 zw_1010) rfl rfl rfl kd_D_traps ⟨Nat.le_of_ble_eq_true rfl, Nat.le_of_ble_eq_true rfl⟩) ⟨zw_blind zw_tt, va_recv (hK.sub (tys' := [(c 21, .long), (c 22, .int), (c 23, .int), (c 24, .int), (c 25, .int), (c 26, .int), (c 27, .int), (c 28, .int)]) [0, 1, 2, 3, 4, 5, 6, 7] rfl) (hP.sub (ws' := wD h c u_16) [0, 1, 2, 3, 4, 5, 6, 7, 8] rfl) (ci := 6) (q0 := 0) rfl rfl, zw_go (hP.sub (ws' := wD h c u_16) [0, 1, 2, 3, 4, 5, 6, 7, 8] rfl) (hD.sub (ws' := wD h c u_16) [0, 1, 2, 3, 4, 5, 6, 7, 8] (by decide) rfl) (hK.sub (tys' := [(c 21, .long), (c 22, .int), (c 23, .int), (c 24, .int), (c 25, .int), (c 26, .int), (c 27, .int), (c 28, .int)]) [0, 1, 2, 3, 4, 5, 6, 7] rfl) (fun _ _ _ => trivial)⟩ rfl rfl hl.1 rfl (lv_room (Nat.le_of_ble_eq_true rfl)) d_D_special_103 ⟨Nat.le_of_ble_eq_true rfl, Nat.le_of_ble_eq_true rfl⟩) hP hD hS hA [0, 1, 2, 3, 4, 5, 6, 7, 8] [] [0, 1, 2, 3, 4, 5, 6, 7, 8] rfl rfl (by decide) (by decide) (by decide) (fun _ => rfl) (fun u_22 H locs hw hP hD hS => ?_)
  have eu_22 := hw
  have ok_22 : okV u_22 := by rw [eu_22]; exact (ov_traps ok_16)
  refine lv_aload_n hx hb d_D_special_106 rfl (lv_at hl 0 rfl) ?_
  refine va_get (D := D) (ci := 6) (v := .int (u_22.1 21)) (C := "WindowMachineModel") (T := T_D) (N := 31) hx hb ht zi_D hown hK hP 0 rfl rfl 29 (by decide) (ht _ zw_883) (fun _ h9 => h9) rfl d_D_special_107 ?_
  refine lv_if_lt (tgt := 114) hx hb d_D_special_110 (by decide) (fun c_23 => ?_) (fun c_23 => ?_)
  · refine lv_iload hx hb d_D_special_114 (lv_at hl 6 rfl) ?_
    refine lv_if_ne (tgt := 171) hx hb d_D_special_116 (by decide) (fun c_24 => ?_) (fun c_24 => ?_)
    · refine lv_iload hx hb d_D_special_171 (lv_at hl 7 rfl) ?_
      refine lv_if_ne (tgt := 185) hx hb d_D_special_173 (by decide) (fun c_25 => ?_) (fun c_25 => ?_)
      · refine lv_iload hx hb d_D_special_185 (lv_at hl 7 rfl) ?_
        refine lv_iconst (v := (2 : Int32)) hx hb d_D_special_187 (by decide) ?_
        refine lv_icmp_ne (tgt := 203) hx hb d_D_special_188 (by decide) (fun c_26 => ?_) (fun c_26 => ?_)
        · refine lv_iload hx hb d_D_special_203 (lv_at hl 7 rfl) ?_
          refine lv_iconst (v := (3 : Int32)) hx hb d_D_special_205 (by decide) ?_
          refine lv_icmp_ne (tgt := 222) hx hb d_D_special_206 (by decide) (fun c_27 => ?_) (fun c_27 => ?_)
          · refine lv_aload_n hx hb d_D_special_222 rfl (lv_at hl 0 rfl) ?_
            refine lv_iload hx hb d_D_special_223 (lv_at hl 8 rfl) ?_
            refine lv_bipush (v := (23 : Int32)) hx hb d_D_special_225 (by decide) ?_
            refine lv_ishr hx hb d_D_special_227 ?_
            refine lv_iconst (v := (1 : Int32)) hx hb d_D_special_228 (by decide) ?_
            refine lv_iand hx hb d_D_special_229 ?_
            refine lv_iconst (v := (1 : Int32)) hx hb d_D_special_230 (by decide) ?_
            refine zcut (X := Int32) (G := fun v9 H locs ls => v9 = (if (((p3 ^^^ p4) >>> ((23 : Int32) &&& 31)) &&& (1 : Int32)) = (1 : Int32) then (1 : Int32) else (0 : Int32)) ∧ va_P D vwCl (wD h c u_22) H ∧ va_D A (wD h c u_22) ∧ va_S A s.heap H locs ∧ lv_has ls 9 [(0, .ref (h 20)), (1, .int p0), (2, .int p1), (3, .int p2), (4, .int p3), (5, .int p4), (6, .int x_1), (7, .int (p0 &&& (7 : Int32))), (8, .int (p3 ^^^ p4))]) (fr := fun v9 ls => F0 m 239 ls [.int v9, .ref (h 20)]) (fun J_29 => ?_) (fun v9 H locs ls hG => ?_)
            · refine lv_icmp_ne (tgt := 238) hx hb d_D_special_231 (by decide) (fun c_30 => ?_) (fun c_30 => ?_)
              · refine lv_iconst (v := (0 : Int32)) hx hb d_D_special_238 (by decide) ?_
                exact J_29 (0 : Int32) _ _ _ ⟨by simp only [if_neg c_30], hP, hD, hS, hl⟩
              refine lv_iconst (v := (1 : Int32)) hx hb d_D_special_234 (by decide) ?_
              refine lv_goto (tgt := 239) hx hb d_D_special_235 (by decide) ?_
              exact J_29 (1 : Int32) _ _ _ ⟨by simp only [if_pos c_30], hP, hD, hS, hl⟩
            obtain ⟨x_28, rfl⟩ : ∃ z, z = v9 := ⟨_, rfl⟩
            obtain ⟨ex_28, hP, hD, hS, hl⟩ := hG
            have zbx_28 : zB x_28 := by rw [ex_28]; repeat' first | with_reducible exact zB0 | with_reducible exact zB1 | with_reducible assumption | with_reducible refine zB_ite ?_ ?_
            refine va_put (D := D) (ci := 6) (v := .int x_28) (ty := .boolean) (C := "WindowMachineModel") (T := T_D) (N := 31) hx hb ht zi_D ty_D tyok_D nm_D hown hK hP hD hS 0 rfl rfl 21 (by decide) (ht _ zw_875) (fun _ h9 => h9) rfl (by decide +kernel) (zbx_28).n (zbx_28).f (Nat.le_of_ble_eq_true rfl) d_D_special_239 (fun H locs hP hD hS => ?_)
            have hP : va_P D vwCl (wD h c (upd u_22.1 13 x_28, u_22.2.1, u_22.2.2.1, u_22.2.2.2.1, u_22.2.2.2.2.1, u_22.2.2.2.2.2)) H := hP
            have hD : va_D A (wD h c (upd u_22.1 13 x_28, u_22.2.1, u_22.2.2.1, u_22.2.2.2.1, u_22.2.2.2.2.1, u_22.2.2.2.2.2)) := hD
            refine lv_aload_n hx hb d_D_special_242 rfl (lv_at hl 0 rfl) ?_
            refine lv_iload hx hb d_D_special_243 (lv_at hl 8 rfl) ?_
            refine lv_bipush (v := (22 : Int32)) hx hb d_D_special_245 (by decide) ?_
            refine lv_ishr hx hb d_D_special_247 ?_
            refine lv_iconst (v := (1 : Int32)) hx hb d_D_special_248 (by decide) ?_
            refine lv_iand hx hb d_D_special_249 ?_
            refine lv_iconst (v := (1 : Int32)) hx hb d_D_special_250 (by decide) ?_
            refine zcut (X := Int32) (G := fun v9 H locs ls => v9 = (if (((p3 ^^^ p4) >>> ((22 : Int32) &&& 31)) &&& (1 : Int32)) = (1 : Int32) then (1 : Int32) else (0 : Int32)) ∧ va_P D vwCl (wD h c (upd u_22.1 13 x_28, u_22.2.1, u_22.2.2.1, u_22.2.2.2.1, u_22.2.2.2.2.1, u_22.2.2.2.2.2)) H ∧ va_D A (wD h c (upd u_22.1 13 x_28, u_22.2.1, u_22.2.2.1, u_22.2.2.2.1, u_22.2.2.2.2.1, u_22.2.2.2.2.2)) ∧ va_S A s.heap H locs ∧ lv_has ls 9 [(0, .ref (h 20)), (1, .int p0), (2, .int p1), (3, .int p2), (4, .int p3), (5, .int p4), (6, .int x_1), (7, .int (p0 &&& (7 : Int32))), (8, .int (p3 ^^^ p4))]) (fr := fun v9 ls => F0 m 259 ls [.int v9, .ref (h 20)]) (fun J_32 => ?_) (fun v9 H locs ls hG => ?_)
            · refine lv_icmp_ne (tgt := 258) hx hb d_D_special_251 (by decide) (fun c_33 => ?_) (fun c_33 => ?_)
              · refine lv_iconst (v := (0 : Int32)) hx hb d_D_special_258 (by decide) ?_
                exact J_32 (0 : Int32) _ _ _ ⟨by simp only [if_neg c_33], hP, hD, hS, hl⟩
              refine lv_iconst (v := (1 : Int32)) hx hb d_D_special_254 (by decide) ?_
              refine lv_goto (tgt := 259) hx hb d_D_special_255 (by decide) ?_
              exact J_32 (1 : Int32) _ _ _ ⟨by simp only [if_pos c_33], hP, hD, hS, hl⟩
            obtain ⟨x_31, rfl⟩ : ∃ z, z = v9 := ⟨_, rfl⟩
            obtain ⟨ex_31, hP, hD, hS, hl⟩ := hG
            have zbx_31 : zB x_31 := by rw [ex_31]; repeat' first | with_reducible exact zB0 | with_reducible exact zB1 | with_reducible assumption | with_reducible refine zB_ite ?_ ?_
            refine va_put (D := D) (ci := 6) (v := .int x_31) (ty := .boolean) (C := "WindowMachineModel") (T := T_D) (N := 31) hx hb ht zi_D ty_D tyok_D nm_D hown hK hP hD hS 0 rfl rfl 22 (by decide) (ht _ zw_876) (fun _ h9 => h9) rfl (by decide +kernel) (zbx_31).n (zbx_31).f (Nat.le_of_ble_eq_true rfl) d_D_special_259 (fun H locs hP hD hS => ?_)
            have hP : va_P D vwCl (wD h c (upd (upd u_22.1 13 x_28) 14 x_31, u_22.2.1, u_22.2.2.1, u_22.2.2.2.1, u_22.2.2.2.2.1, u_22.2.2.2.2.2)) H := hP
            have hD : va_D A (wD h c (upd (upd u_22.1 13 x_28) 14 x_31, u_22.2.1, u_22.2.2.1, u_22.2.2.2.1, u_22.2.2.2.2.1, u_22.2.2.2.2.2)) := hD
            refine lv_aload_n hx hb d_D_special_262 rfl (lv_at hl 0 rfl) ?_
            refine lv_iload hx hb d_D_special_263 (lv_at hl 8 rfl) ?_
            refine lv_bipush (v := (21 : Int32)) hx hb d_D_special_265 (by decide) ?_
            refine lv_ishr hx hb d_D_special_267 ?_
            refine lv_iconst (v := (1 : Int32)) hx hb d_D_special_268 (by decide) ?_
            refine lv_iand hx hb d_D_special_269 ?_
            refine lv_iconst (v := (1 : Int32)) hx hb d_D_special_270 (by decide) ?_
            refine zcut (X := Int32) (G := fun v9 H locs ls => v9 = (if (((p3 ^^^ p4) >>> ((21 : Int32) &&& 31)) &&& (1 : Int32)) = (1 : Int32) then (1 : Int32) else (0 : Int32)) ∧ va_P D vwCl (wD h c (upd (upd u_22.1 13 x_28) 14 x_31, u_22.2.1, u_22.2.2.1, u_22.2.2.2.1, u_22.2.2.2.2.1, u_22.2.2.2.2.2)) H ∧ va_D A (wD h c (upd (upd u_22.1 13 x_28) 14 x_31, u_22.2.1, u_22.2.2.1, u_22.2.2.2.1, u_22.2.2.2.2.1, u_22.2.2.2.2.2)) ∧ va_S A s.heap H locs ∧ lv_has ls 9 [(0, .ref (h 20)), (1, .int p0), (2, .int p1), (3, .int p2), (4, .int p3), (5, .int p4), (6, .int x_1), (7, .int (p0 &&& (7 : Int32))), (8, .int (p3 ^^^ p4))]) (fr := fun v9 ls => F0 m 279 ls [.int v9, .ref (h 20)]) (fun J_35 => ?_) (fun v9 H locs ls hG => ?_)
            · refine lv_icmp_ne (tgt := 278) hx hb d_D_special_271 (by decide) (fun c_36 => ?_) (fun c_36 => ?_)
              · refine lv_iconst (v := (0 : Int32)) hx hb d_D_special_278 (by decide) ?_
                exact J_35 (0 : Int32) _ _ _ ⟨by simp only [if_neg c_36], hP, hD, hS, hl⟩
              refine lv_iconst (v := (1 : Int32)) hx hb d_D_special_274 (by decide) ?_
              refine lv_goto (tgt := 279) hx hb d_D_special_275 (by decide) ?_
              exact J_35 (1 : Int32) _ _ _ ⟨by simp only [if_pos c_36], hP, hD, hS, hl⟩
            obtain ⟨x_34, rfl⟩ : ∃ z, z = v9 := ⟨_, rfl⟩
            obtain ⟨ex_34, hP, hD, hS, hl⟩ := hG
            have zbx_34 : zB x_34 := by rw [ex_34]; repeat' first | with_reducible exact zB0 | with_reducible exact zB1 | with_reducible assumption | with_reducible refine zB_ite ?_ ?_
            refine va_put (D := D) (ci := 6) (v := .int x_34) (ty := .boolean) (C := "WindowMachineModel") (T := T_D) (N := 31) hx hb ht zi_D ty_D tyok_D nm_D hown hK hP hD hS 0 rfl rfl 23 (by decide) (ht _ zw_877) (fun _ h9 => h9) rfl (by decide +kernel) (zbx_34).n (zbx_34).f (Nat.le_of_ble_eq_true rfl) d_D_special_279 (fun H locs hP hD hS => ?_)
            have hP : va_P D vwCl (wD h c (upd (upd (upd u_22.1 13 x_28) 14 x_31) 15 x_34, u_22.2.1, u_22.2.2.1, u_22.2.2.2.1, u_22.2.2.2.2.1, u_22.2.2.2.2.2)) H := hP
            have hD : va_D A (wD h c (upd (upd (upd u_22.1 13 x_28) 14 x_31) 15 x_34, u_22.2.1, u_22.2.2.1, u_22.2.2.2.1, u_22.2.2.2.2.1, u_22.2.2.2.2.2)) := hD
            refine lv_aload_n hx hb d_D_special_282 rfl (lv_at hl 0 rfl) ?_
            refine lv_iload hx hb d_D_special_283 (lv_at hl 8 rfl) ?_
            refine lv_bipush (v := (20 : Int32)) hx hb d_D_special_285 (by decide) ?_
            refine lv_ishr hx hb d_D_special_287 ?_
            refine lv_iconst (v := (1 : Int32)) hx hb d_D_special_288 (by decide) ?_
            refine lv_iand hx hb d_D_special_289 ?_
            refine lv_iconst (v := (1 : Int32)) hx hb d_D_special_290 (by decide) ?_
            refine zcut (X := Int32) (G := fun v9 H locs ls => v9 = (if (((p3 ^^^ p4) >>> ((20 : Int32) &&& 31)) &&& (1 : Int32)) = (1 : Int32) then (1 : Int32) else (0 : Int32)) ∧ va_P D vwCl (wD h c (upd (upd (upd u_22.1 13 x_28) 14 x_31) 15 x_34, u_22.2.1, u_22.2.2.1, u_22.2.2.2.1, u_22.2.2.2.2.1, u_22.2.2.2.2.2)) H ∧ va_D A (wD h c (upd (upd (upd u_22.1 13 x_28) 14 x_31) 15 x_34, u_22.2.1, u_22.2.2.1, u_22.2.2.2.1, u_22.2.2.2.2.1, u_22.2.2.2.2.2)) ∧ va_S A s.heap H locs ∧ lv_has ls 9 [(0, .ref (h 20)), (1, .int p0), (2, .int p1), (3, .int p2), (4, .int p3), (5, .int p4), (6, .int x_1), (7, .int (p0 &&& (7 : Int32))), (8, .int (p3 ^^^ p4))]) (fr := fun v9 ls => F0 m 299 ls [.int v9, .ref (h 20)]) (fun J_38 => ?_) (fun v9 H locs ls hG => ?_)
            · refine lv_icmp_ne (tgt := 298) hx hb d_D_special_291 (by decide) (fun c_39 => ?_) (fun c_39 => ?_)
              · refine lv_iconst (v := (0 : Int32)) hx hb d_D_special_298 (by decide) ?_
                exact J_38 (0 : Int32) _ _ _ ⟨by simp only [if_neg c_39], hP, hD, hS, hl⟩
              refine lv_iconst (v := (1 : Int32)) hx hb d_D_special_294 (by decide) ?_
              refine lv_goto (tgt := 299) hx hb d_D_special_295 (by decide) ?_
              exact J_38 (1 : Int32) _ _ _ ⟨by simp only [if_pos c_39], hP, hD, hS, hl⟩
            obtain ⟨x_37, rfl⟩ : ∃ z, z = v9 := ⟨_, rfl⟩
            obtain ⟨ex_37, hP, hD, hS, hl⟩ := hG
            have zbx_37 : zB x_37 := by rw [ex_37]; repeat' first | with_reducible exact zB0 | with_reducible exact zB1 | with_reducible assumption | with_reducible refine zB_ite ?_ ?_
            refine va_put (D := D) (ci := 6) (v := .int x_37) (ty := .boolean) (C := "WindowMachineModel") (T := T_D) (N := 31) hx hb ht zi_D ty_D tyok_D nm_D hown hK hP hD hS 0 rfl rfl 24 (by decide) (ht _ zw_878) (fun _ h9 => h9) rfl (by decide +kernel) (zbx_37).n (zbx_37).f (Nat.le_of_ble_eq_true rfl) d_D_special_299 (fun H locs hP hD hS => ?_)
            have hP : va_P D vwCl (wD h c (upd (upd (upd (upd u_22.1 13 x_28) 14 x_31) 15 x_34) 16 x_37, u_22.2.1, u_22.2.2.1, u_22.2.2.2.1, u_22.2.2.2.2.1, u_22.2.2.2.2.2)) H := hP
            have hD : va_D A (wD h c (upd (upd (upd (upd u_22.1 13 x_28) 14 x_31) 15 x_34) 16 x_37, u_22.2.1, u_22.2.2.1, u_22.2.2.2.1, u_22.2.2.2.2.1, u_22.2.2.2.2.2)) := hD
            refine lv_aload_n hx hb d_D_special_302 rfl (lv_at hl 0 rfl) ?_
            refine lv_iload hx hb d_D_special_303 (lv_at hl 8 rfl) ?_
            refine lv_bipush (v := (7 : Int32)) hx hb d_D_special_305 (by decide) ?_
            refine lv_ishr hx hb d_D_special_307 ?_
            refine lv_iconst (v := (1 : Int32)) hx hb d_D_special_308 (by decide) ?_
            refine lv_iand hx hb d_D_special_309 ?_
            refine lv_iconst (v := (1 : Int32)) hx hb d_D_special_310 (by decide) ?_
            refine zcut (X := Int32) (G := fun v9 H locs ls => v9 = (if (((p3 ^^^ p4) >>> ((7 : Int32) &&& 31)) &&& (1 : Int32)) = (1 : Int32) then (1 : Int32) else (0 : Int32)) ∧ va_P D vwCl (wD h c (upd (upd (upd (upd u_22.1 13 x_28) 14 x_31) 15 x_34) 16 x_37, u_22.2.1, u_22.2.2.1, u_22.2.2.2.1, u_22.2.2.2.2.1, u_22.2.2.2.2.2)) H ∧ va_D A (wD h c (upd (upd (upd (upd u_22.1 13 x_28) 14 x_31) 15 x_34) 16 x_37, u_22.2.1, u_22.2.2.1, u_22.2.2.2.1, u_22.2.2.2.2.1, u_22.2.2.2.2.2)) ∧ va_S A s.heap H locs ∧ lv_has ls 9 [(0, .ref (h 20)), (1, .int p0), (2, .int p1), (3, .int p2), (4, .int p3), (5, .int p4), (6, .int x_1), (7, .int (p0 &&& (7 : Int32))), (8, .int (p3 ^^^ p4))]) (fr := fun v9 ls => F0 m 319 ls [.int v9, .ref (h 20)]) (fun J_41 => ?_) (fun v9 H locs ls hG => ?_)
            · refine lv_icmp_ne (tgt := 318) hx hb d_D_special_311 (by decide) (fun c_42 => ?_) (fun c_42 => ?_)
              · refine lv_iconst (v := (0 : Int32)) hx hb d_D_special_318 (by decide) ?_
                exact J_41 (0 : Int32) _ _ _ ⟨by simp only [if_neg c_42], hP, hD, hS, hl⟩
              refine lv_iconst (v := (1 : Int32)) hx hb d_D_special_314 (by decide) ?_
              refine lv_goto (tgt := 319) hx hb d_D_special_315 (by decide) ?_
              exact J_41 (1 : Int32) _ _ _ ⟨by simp only [if_pos c_42], hP, hD, hS, hl⟩
            obtain ⟨x_40, rfl⟩ : ∃ z, z = v9 := ⟨_, rfl⟩
            obtain ⟨ex_40, hP, hD, hS, hl⟩ := hG
            have zbx_40 : zB x_40 := by rw [ex_40]; repeat' first | with_reducible exact zB0 | with_reducible exact zB1 | with_reducible assumption | with_reducible refine zB_ite ?_ ?_
            refine va_put (D := D) (ci := 6) (v := .int x_40) (ty := .boolean) (C := "WindowMachineModel") (T := T_D) (N := 31) hx hb ht zi_D ty_D tyok_D nm_D hown hK hP hD hS 0 rfl rfl 25 (by decide) (ht _ zw_879) (fun _ h9 => h9) rfl (by decide +kernel) (zbx_40).n (zbx_40).f (Nat.le_of_ble_eq_true rfl) d_D_special_319 (fun H locs hP hD hS => ?_)
            have hP : va_P D vwCl (wD h c (upd (upd (upd (upd (upd u_22.1 13 x_28) 14 x_31) 15 x_34) 16 x_37) 17 x_40, u_22.2.1, u_22.2.2.1, u_22.2.2.2.1, u_22.2.2.2.2.1, u_22.2.2.2.2.2)) H := hP
            have hD : va_D A (wD h c (upd (upd (upd (upd (upd u_22.1 13 x_28) 14 x_31) 15 x_34) 16 x_37) 17 x_40, u_22.2.1, u_22.2.2.1, u_22.2.2.2.1, u_22.2.2.2.2.1, u_22.2.2.2.2.2)) := hD
            refine lv_aload_n hx hb d_D_special_322 rfl (lv_at hl 0 rfl) ?_
            refine lv_iload hx hb d_D_special_323 (lv_at hl 8 rfl) ?_
            refine lv_bipush (v := (6 : Int32)) hx hb d_D_special_325 (by decide) ?_
            refine lv_ishr hx hb d_D_special_327 ?_
            refine lv_iconst (v := (1 : Int32)) hx hb d_D_special_328 (by decide) ?_
            refine lv_iand hx hb d_D_special_329 ?_
            refine lv_iconst (v := (1 : Int32)) hx hb d_D_special_330 (by decide) ?_
            refine zcut (X := Int32) (G := fun v9 H locs ls => v9 = (if (((p3 ^^^ p4) >>> ((6 : Int32) &&& 31)) &&& (1 : Int32)) = (1 : Int32) then (1 : Int32) else (0 : Int32)) ∧ va_P D vwCl (wD h c (upd (upd (upd (upd (upd u_22.1 13 x_28) 14 x_31) 15 x_34) 16 x_37) 17 x_40, u_22.2.1, u_22.2.2.1, u_22.2.2.2.1, u_22.2.2.2.2.1, u_22.2.2.2.2.2)) H ∧ va_D A (wD h c (upd (upd (upd (upd (upd u_22.1 13 x_28) 14 x_31) 15 x_34) 16 x_37) 17 x_40, u_22.2.1, u_22.2.2.1, u_22.2.2.2.1, u_22.2.2.2.2.1, u_22.2.2.2.2.2)) ∧ va_S A s.heap H locs ∧ lv_has ls 9 [(0, .ref (h 20)), (1, .int p0), (2, .int p1), (3, .int p2), (4, .int p3), (5, .int p4), (6, .int x_1), (7, .int (p0 &&& (7 : Int32))), (8, .int (p3 ^^^ p4))]) (fr := fun v9 ls => F0 m 339 ls [.int v9, .ref (h 20)]) (fun J_44 => ?_) (fun v9 H locs ls hG => ?_)
            · refine lv_icmp_ne (tgt := 338) hx hb d_D_special_331 (by decide) (fun c_45 => ?_) (fun c_45 => ?_)
              · refine lv_iconst (v := (0 : Int32)) hx hb d_D_special_338 (by decide) ?_
                exact J_44 (0 : Int32) _ _ _ ⟨by simp only [if_neg c_45], hP, hD, hS, hl⟩
              refine lv_iconst (v := (1 : Int32)) hx hb d_D_special_334 (by decide) ?_
              refine lv_goto (tgt := 339) hx hb d_D_special_335 (by decide) ?_
              exact J_44 (1 : Int32) _ _ _ ⟨by simp only [if_pos c_45], hP, hD, hS, hl⟩
            obtain ⟨x_43, rfl⟩ : ∃ z, z = v9 := ⟨_, rfl⟩
            obtain ⟨ex_43, hP, hD, hS, hl⟩ := hG
            have zbx_43 : zB x_43 := by rw [ex_43]; repeat' first | with_reducible exact zB0 | with_reducible exact zB1 | with_reducible assumption | with_reducible refine zB_ite ?_ ?_
            refine va_put (D := D) (ci := 6) (v := .int x_43) (ty := .boolean) (C := "WindowMachineModel") (T := T_D) (N := 31) hx hb ht zi_D ty_D tyok_D nm_D hown hK hP hD hS 0 rfl rfl 26 (by decide) (ht _ zw_880) (fun _ h9 => h9) rfl (by decide +kernel) (zbx_43).n (zbx_43).f (Nat.le_of_ble_eq_true rfl) d_D_special_339 (fun H locs hP hD hS => ?_)
            have hP : va_P D vwCl (wD h c (upd (upd (upd (upd (upd (upd u_22.1 13 x_28) 14 x_31) 15 x_34) 16 x_37) 17 x_40) 18 x_43, u_22.2.1, u_22.2.2.1, u_22.2.2.2.1, u_22.2.2.2.2.1, u_22.2.2.2.2.2)) H := hP
            have hD : va_D A (wD h c (upd (upd (upd (upd (upd (upd u_22.1 13 x_28) 14 x_31) 15 x_34) 16 x_37) 17 x_40) 18 x_43, u_22.2.1, u_22.2.2.1, u_22.2.2.2.1, u_22.2.2.2.2.1, u_22.2.2.2.2.2)) := hD
            refine lv_aload_n hx hb d_D_special_342 rfl (lv_at hl 0 rfl) ?_
            refine lv_iload hx hb d_D_special_343 (lv_at hl 8 rfl) ?_
            refine lv_iconst (v := (5 : Int32)) hx hb d_D_special_345 (by decide) ?_
            refine lv_ishr hx hb d_D_special_346 ?_
            refine lv_iconst (v := (1 : Int32)) hx hb d_D_special_347 (by decide) ?_
            refine lv_iand hx hb d_D_special_348 ?_
            refine lv_iconst (v := (1 : Int32)) hx hb d_D_special_349 (by decide) ?_
            refine zcut (X := Int32) (G := fun v9 H locs ls => v9 = (if (((p3 ^^^ p4) >>> ((5 : Int32) &&& 31)) &&& (1 : Int32)) = (1 : Int32) then (1 : Int32) else (0 : Int32)) ∧ va_P D vwCl (wD h c (upd (upd (upd (upd (upd (upd u_22.1 13 x_28) 14 x_31) 15 x_34) 16 x_37) 17 x_40) 18 x_43, u_22.2.1, u_22.2.2.1, u_22.2.2.2.1, u_22.2.2.2.2.1, u_22.2.2.2.2.2)) H ∧ va_D A (wD h c (upd (upd (upd (upd (upd (upd u_22.1 13 x_28) 14 x_31) 15 x_34) 16 x_37) 17 x_40) 18 x_43, u_22.2.1, u_22.2.2.1, u_22.2.2.2.1, u_22.2.2.2.2.1, u_22.2.2.2.2.2)) ∧ va_S A s.heap H locs ∧ lv_has ls 9 [(0, .ref (h 20)), (1, .int p0), (2, .int p1), (3, .int p2), (4, .int p3), (5, .int p4), (6, .int x_1), (7, .int (p0 &&& (7 : Int32))), (8, .int (p3 ^^^ p4))]) (fr := fun v9 ls => F0 m 358 ls [.int v9, .ref (h 20)]) (fun J_47 => ?_) (fun v9 H locs ls hG => ?_)
            · refine lv_icmp_ne (tgt := 357) hx hb d_D_special_350 (by decide) (fun c_48 => ?_) (fun c_48 => ?_)
              · refine lv_iconst (v := (0 : Int32)) hx hb d_D_special_357 (by decide) ?_
                exact J_47 (0 : Int32) _ _ _ ⟨by simp only [if_neg c_48], hP, hD, hS, hl⟩
              refine lv_iconst (v := (1 : Int32)) hx hb d_D_special_353 (by decide) ?_
              refine lv_goto (tgt := 358) hx hb d_D_special_354 (by decide) ?_
              exact J_47 (1 : Int32) _ _ _ ⟨by simp only [if_pos c_48], hP, hD, hS, hl⟩
            obtain ⟨x_46, rfl⟩ : ∃ z, z = v9 := ⟨_, rfl⟩
            obtain ⟨ex_46, hP, hD, hS, hl⟩ := hG
            have zbx_46 : zB x_46 := by rw [ex_46]; repeat' first | with_reducible exact zB0 | with_reducible exact zB1 | with_reducible assumption | with_reducible refine zB_ite ?_ ?_
            refine va_put (D := D) (ci := 6) (v := .int x_46) (ty := .boolean) (C := "WindowMachineModel") (T := T_D) (N := 31) hx hb ht zi_D ty_D tyok_D nm_D hown hK hP hD hS 0 rfl rfl 27 (by decide) (ht _ zw_881) (fun _ h9 => h9) rfl (by decide +kernel) (zbx_46).n (zbx_46).f (Nat.le_of_ble_eq_true rfl) d_D_special_358 (fun H locs hP hD hS => ?_)
            have hP : va_P D vwCl (wD h c (upd (upd (upd (upd (upd (upd (upd u_22.1 13 x_28) 14 x_31) 15 x_34) 16 x_37) 17 x_40) 18 x_43) 19 x_46, u_22.2.1, u_22.2.2.1, u_22.2.2.2.1, u_22.2.2.2.2.1, u_22.2.2.2.2.2)) H := hP
            have hD : va_D A (wD h c (upd (upd (upd (upd (upd (upd (upd u_22.1 13 x_28) 14 x_31) 15 x_34) 16 x_37) 17 x_40) 18 x_43) 19 x_46, u_22.2.1, u_22.2.2.1, u_22.2.2.2.1, u_22.2.2.2.2.1, u_22.2.2.2.2.2)) := hD
            refine lv_aload_n hx hb d_D_special_361 rfl (lv_at hl 0 rfl) ?_
            refine lv_iload hx hb d_D_special_362 (lv_at hl 8 rfl) ?_
            refine lv_iconst (v := (3 : Int32)) hx hb d_D_special_364 (by decide) ?_
            refine lv_iand hx hb d_D_special_365 ?_
            refine va_put (D := D) (ci := 6) (v := .int ((p3 ^^^ p4) &&& (3 : Int32))) (ty := .int) (C := "WindowMachineModel") (T := T_D) (N := 31) hx hb ht zi_D ty_D tyok_D nm_D hown hK hP hD hS 0 rfl rfl 14 (by decide) (ht _ zw_868) (fun _ h9 => h9) rfl (by decide +kernel) rfl rfl (Nat.le_of_ble_eq_true rfl) d_D_special_366 (fun H locs hP hD hS => ?_)
            have hP : va_P D vwCl (wD h c (upd (upd (upd (upd (upd (upd (upd (upd u_22.1 13 x_28) 14 x_31) 15 x_34) 16 x_37) 17 x_40) 18 x_43) 19 x_46) 6 ((p3 ^^^ p4) &&& (3 : Int32)), u_22.2.1, u_22.2.2.1, u_22.2.2.2.1, u_22.2.2.2.2.1, u_22.2.2.2.2.2)) H := hP
            have hD : va_D A (wD h c (upd (upd (upd (upd (upd (upd (upd (upd u_22.1 13 x_28) 14 x_31) 15 x_34) 16 x_37) 17 x_40) 18 x_43) 19 x_46) 6 ((p3 ^^^ p4) &&& (3 : Int32)), u_22.2.1, u_22.2.2.1, u_22.2.2.2.1, u_22.2.2.2.2.1, u_22.2.2.2.2.2)) := hD
            exact zl_v (u := (upd (upd (upd (upd (upd (upd (upd (upd u_22.1 13 x_28) 14 x_31) 15 x_34) 16 x_37) 17 x_40) 18 x_43) 19 x_46) 6 ((p3 ^^^ p4) &&& (3 : Int32)), u_22.2.1, u_22.2.2.1, u_22.2.2.2.1, u_22.2.2.2.2.1, u_22.2.2.2.2.2)) hx hb hr hlocks hS hP hD (by simp only [m_special, ← ex_1, ← ex_4, ← eu_11, ← ex_12, ← eu_16, ← ex_17, ← eu_22, ← ex_28, ← ex_31, ← ex_34, ← ex_37, ← ex_40, ← ex_43, ← ex_46]; try simp only [if_pos c_23, if_neg c_24, if_neg c_25, if_neg c_26, if_neg c_27]) d_D_special_369
          refine lv_aload_n hx hb d_D_special_209 rfl (lv_at hl 0 rfl) ?_
          refine lv_iload hx hb d_D_special_210 (lv_at hl 8 rfl) ?_
          refine lv_sipush (v := (-4096 : Int32)) hx hb d_D_special_212 (by decide) ?_
          refine lv_iand hx hb d_D_special_215 ?_
          refine va_put (D := D) (ci := 6) (v := .int ((p3 ^^^ p4) &&& (-4096 : Int32))) (ty := .int) (C := "WindowMachineModel") (T := T_D) (N := 31) hx hb ht zi_D ty_D tyok_D nm_D hown hK hP hD hS 0 rfl rfl 17 (by decide) (ht _ zw_871) (fun _ h9 => h9) rfl (by decide +kernel) rfl rfl (Nat.le_of_ble_eq_true rfl) d_D_special_216 (fun H locs hP hD hS => ?_)
          have hP : va_P D vwCl (wD h c (upd u_22.1 9 ((p3 ^^^ p4) &&& (-4096 : Int32)), u_22.2.1, u_22.2.2.1, u_22.2.2.2.1, u_22.2.2.2.2.1, u_22.2.2.2.2.2)) H := hP
          have hD : va_D A (wD h c (upd u_22.1 9 ((p3 ^^^ p4) &&& (-4096 : Int32)), u_22.2.1, u_22.2.2.1, u_22.2.2.2.1, u_22.2.2.2.2.1, u_22.2.2.2.2.2)) := hD
          refine lv_goto (tgt := 369) hx hb d_D_special_219 (by decide) ?_
          exact zl_v (u := (upd u_22.1 9 ((p3 ^^^ p4) &&& (-4096 : Int32)), u_22.2.1, u_22.2.2.1, u_22.2.2.2.1, u_22.2.2.2.2.1, u_22.2.2.2.2.2)) hx hb hr hlocks hS hP hD (by simp only [m_special, ← ex_1, ← ex_4, ← eu_11, ← ex_12, ← eu_16, ← ex_17, ← eu_22]; try simp only [if_pos c_23, if_neg c_24, if_neg c_25, if_neg c_26, if_pos c_27]) d_D_special_369
        refine lv_aload_n hx hb d_D_special_191 rfl (lv_at hl 0 rfl) ?_
        refine lv_iload hx hb d_D_special_192 (lv_at hl 8 rfl) ?_
        refine lv_bipush (v := (15 : Int32)) hx hb d_D_special_194 (by decide) ?_
        refine lv_iand hx hb d_D_special_196 ?_
        refine va_put (D := D) (ci := 6) (v := .int ((p3 ^^^ p4) &&& (15 : Int32))) (ty := .int) (C := "WindowMachineModel") (T := T_D) (N := 31) hx hb ht zi_D ty_D tyok_D nm_D hown hK hP hD hS 0 rfl rfl 16 (by decide) (ht _ zw_870) (fun _ h9 => h9) rfl (by decide +kernel) rfl rfl (Nat.le_of_ble_eq_true rfl) d_D_special_197 (fun H locs hP hD hS => ?_)
        have hP : va_P D vwCl (wD h c (upd u_22.1 8 ((p3 ^^^ p4) &&& (15 : Int32)), u_22.2.1, u_22.2.2.1, u_22.2.2.2.1, u_22.2.2.2.2.1, u_22.2.2.2.2.2)) H := hP
        have hD : va_D A (wD h c (upd u_22.1 8 ((p3 ^^^ p4) &&& (15 : Int32)), u_22.2.1, u_22.2.2.1, u_22.2.2.2.1, u_22.2.2.2.2.1, u_22.2.2.2.2.2)) := hD
        refine lv_goto (tgt := 369) hx hb d_D_special_200 (by decide) ?_
        exact zl_v (u := (upd u_22.1 8 ((p3 ^^^ p4) &&& (15 : Int32)), u_22.2.1, u_22.2.2.1, u_22.2.2.2.1, u_22.2.2.2.2.1, u_22.2.2.2.2.2)) hx hb hr hlocks hS hP hD (by simp only [m_special, ← ex_1, ← ex_4, ← eu_11, ← ex_12, ← eu_16, ← ex_17, ← eu_22]; try simp only [if_pos c_23, if_neg c_24, if_neg c_25, if_pos c_26]) d_D_special_369
      refine lv_aload_n hx hb d_D_special_176 rfl (lv_at hl 0 rfl) ?_
      refine lv_iload hx hb d_D_special_177 (lv_at hl 8 rfl) ?_
      refine va_put (D := D) (ci := 6) (v := .int (p3 ^^^ p4)) (ty := .int) (C := "WindowMachineModel") (T := T_D) (N := 31) hx hb ht zi_D ty_D tyok_D nm_D hown hK hP hD hS 0 rfl rfl 15 (by decide) (ht _ zw_869) (fun _ h9 => h9) rfl (by decide +kernel) rfl rfl (Nat.le_of_ble_eq_true rfl) d_D_special_179 (fun H locs hP hD hS => ?_)
      have hP : va_P D vwCl (wD h c (upd u_22.1 7 (p3 ^^^ p4), u_22.2.1, u_22.2.2.1, u_22.2.2.2.1, u_22.2.2.2.2.1, u_22.2.2.2.2.2)) H := hP
      have hD : va_D A (wD h c (upd u_22.1 7 (p3 ^^^ p4), u_22.2.1, u_22.2.2.1, u_22.2.2.2.1, u_22.2.2.2.2.1, u_22.2.2.2.2.2)) := hD
      refine lv_goto (tgt := 369) hx hb d_D_special_182 (by decide) ?_
      exact zl_v (u := (upd u_22.1 7 (p3 ^^^ p4), u_22.2.1, u_22.2.2.1, u_22.2.2.2.1, u_22.2.2.2.2.1, u_22.2.2.2.2.2)) hx hb hr hlocks hS hP hD (by simp only [m_special, ← ex_1, ← ex_4, ← eu_11, ← ex_12, ← eu_16, ← ex_17, ← eu_22]; try simp only [if_pos c_23, if_neg c_24, if_pos c_25]) d_D_special_369
    refine lv_aload_n hx hb d_D_special_119 rfl (lv_at hl 0 rfl) ?_
    refine lv_iload_n hx hb d_D_special_120 rfl (lv_at hl 2 rfl) ?_
    refine lv_aload_n hx hb d_D_special_121 rfl (lv_at hl 0 rfl) ?_
    refine va_get (D := D) (ci := 6) (v := .int (u_22.1 6)) (C := "WindowMachineModel") (T := T_D) (N := 31) hx hb ht zi_D hown hK hP 0 rfl rfl 14 (by decide) (ht _ zw_868) (fun _ h9 => h9) rfl d_D_special_122 ?_
    refine lv_iload hx hb d_D_special_125 (lv_at hl 7 rfl) ?_
    refine zcut (X := Int32) (G := fun v9 H locs ls => v9 = (if (p0 &&& (7 : Int32)) = (0 : Int32) then u_22.1 7 else (if (p0 &&& (7 : Int32)) = (1 : Int32) then m_psr u_22 else (if (p0 &&& (7 : Int32)) = (2 : Int32) then u_22.1 8 else u_22.1 9))) ∧ va_P D vwCl (wD h c u_22) H ∧ va_D A (wD h c u_22) ∧ va_S A s.heap H locs ∧ lv_has ls 9 [(0, .ref (h 20)), (1, .int p0), (2, .int p1), (3, .int p2), (4, .int p3), (5, .int p4), (6, .int x_1), (7, .int (p0 &&& (7 : Int32))), (8, .int (p3 ^^^ p4))]) (fr := fun v9 ls => F0 m 167 ls [.int v9, .int (u_22.1 6), .int p1, .ref (h 20)]) (fun J_50 => ?_) (fun v9 H locs ls hG => ?_)
    · refine lv_if_ne (tgt := 137) hx hb d_D_special_127 (by decide) (fun c_51 => ?_) (fun c_51 => ?_)
      · refine lv_iload hx hb d_D_special_137 (lv_at hl 7 rfl) ?_
        refine lv_iconst (v := (1 : Int32)) hx hb d_D_special_139 (by decide) ?_
        refine lv_icmp_ne (tgt := 150) hx hb d_D_special_140 (by decide) (fun c_52 => ?_) (fun c_52 => ?_)
        · refine lv_iload hx hb d_D_special_150 (lv_at hl 7 rfl) ?_
          refine lv_iconst (v := (2 : Int32)) hx hb d_D_special_152 (by decide) ?_
          refine lv_icmp_ne (tgt := 163) hx hb d_D_special_153 (by decide) (fun c_53 => ?_) (fun c_53 => ?_)
          · refine lv_aload_n hx hb d_D_special_163 rfl (lv_at hl 0 rfl) ?_
            refine va_get (D := D) (ci := 6) (v := .int (u_22.1 9)) (C := "WindowMachineModel") (T := T_D) (N := 31) hx hb ht zi_D hown hK hP 0 rfl rfl 17 (by decide) (ht _ zw_871) (fun _ h9 => h9) rfl d_D_special_164 ?_
            exact J_50 (u_22.1 9) _ _ _ ⟨by simp only [if_neg c_51, if_neg c_52, if_neg c_53], hP, hD, hS, hl⟩
          refine lv_aload_n hx hb d_D_special_156 rfl (lv_at hl 0 rfl) ?_
          refine va_get (D := D) (ci := 6) (v := .int (u_22.1 8)) (C := "WindowMachineModel") (T := T_D) (N := 31) hx hb ht zi_D hown hK hP 0 rfl rfl 16 (by decide) (ht _ zw_870) (fun _ h9 => h9) rfl d_D_special_157 ?_
          refine lv_goto (tgt := 167) hx hb d_D_special_160 (by decide) ?_
          exact J_50 (u_22.1 8) _ _ _ ⟨by simp only [if_neg c_51, if_neg c_52, if_pos c_53], hP, hD, hS, hl⟩
        refine lv_aload_n hx hb d_D_special_143 rfl (lv_at hl 0 rfl) ?_
        refine zc_i (w2 := fun _ => wD h c u_22) (va_runV (As := []) (rest := [.int (u_22.1 6), .int p1, .ref (h 20)]) ⟨hx, hb, hml, hown, ht⟩ (mt_D_psr l D h c H.size u_22) (cwV 0 ht (zgV zw_1066 zw_1068 zs_70 zw_7 zw_1069) rfl rfl rfl kd_D_psr ⟨Nat.le_of_ble_eq_true rfl, Nat.le_of_ble_eq_true rfl⟩) ⟨zw_blind zw_tt, va_recv (hK.sub (tys' := [(c 21, .long), (c 22, .int), (c 23, .int), (c 24, .int), (c 25, .int), (c 26, .int), (c 27, .int), (c 28, .int)]) [0, 1, 2, 3, 4, 5, 6, 7] rfl) (hP.sub (ws' := wD h c u_22) [0, 1, 2, 3, 4, 5, 6, 7, 8] rfl) (ci := 6) (q0 := 0) rfl rfl, zw_go (hP.sub (ws' := wD h c u_22) [0, 1, 2, 3, 4, 5, 6, 7, 8] rfl) (hD.sub (ws' := wD h c u_22) [0, 1, 2, 3, 4, 5, 6, 7, 8] (by decide) rfl) (hK.sub (tys' := [(c 21, .long), (c 22, .int), (c 23, .int), (c 24, .int), (c 25, .int), (c 26, .int), (c 27, .int), (c 28, .int)]) [0, 1, 2, 3, 4, 5, 6, 7] rfl) (fun _ _ _ => trivial)⟩ rfl rfl hl.1 rfl (lv_room (Nat.le_of_ble_eq_true rfl)) d_D_special_144 ⟨Nat.le_of_ble_eq_true rfl, Nat.le_of_ble_eq_true rfl⟩) hP hD hS hA [0, 1, 2, 3, 4, 5, 6, 7, 8] [] [0, 1, 2, 3, 4, 5, 6, 7, 8] rfl rfl (by decide) (by decide) (by decide) (fun _ => rfl) (fun r_54 _ H locs hw hP hD hS => ?_)
        subst hw
        refine lv_goto (tgt := 167) hx hb d_D_special_147 (by decide) ?_
        exact J_50 (m_psr u_22) _ _ _ ⟨by simp only [if_neg c_51, if_pos c_52], hP, hD, hS, hl⟩
      refine lv_aload_n hx hb d_D_special_130 rfl (lv_at hl 0 rfl) ?_
      refine va_get (D := D) (ci := 6) (v := .int (u_22.1 7)) (C := "WindowMachineModel") (T := T_D) (N := 31) hx hb ht zi_D hown hK hP 0 rfl rfl 15 (by decide) (ht _ zw_869) (fun _ h9 => h9) rfl d_D_special_131 ?_
      refine lv_goto (tgt := 167) hx hb d_D_special_134 (by decide) ?_
      exact J_50 (u_22.1 7) _ _ _ ⟨by simp only [if_pos c_51], hP, hD, hS, hl⟩
    obtain ⟨x_49, rfl⟩ : ∃ z, z = v9 := ⟨_, rfl⟩
    obtain ⟨ex_49, hP, hD, hS, hl⟩ := hG
    refine zc_v (w2 := fun u9 => wD h c u9) (va_runV (As := [.int p1, .int (u_22.1 6), .int x_49]) (rest := []) ⟨hx, hb, hml, hown, ht⟩ (mt_D_gives l D h c H.size u_22 p1 (u_22.1 6) x_49 hr9 (ok_22).1) (cwV 3 ht (zgV zw_990 zw_992 zs_57 zw_7 zw_993) rfl rfl rfl kd_D_gives ⟨Nat.le_of_ble_eq_true rfl, Nat.le_of_ble_eq_true rfl⟩) ⟨zw_blind zw_tt, va_recv (hK.sub (tys' := [(c 21, .long), (c 22, .int), (c 23, .int), (c 24, .int), (c 25, .int), (c 26, .int), (c 27, .int), (c 28, .int)]) [0, 1, 2, 3, 4, 5, 6, 7] rfl) (hP.sub (ws' := wD h c u_22) [0, 1, 2, 3, 4, 5, 6, 7, 8] rfl) (ci := 6) (q0 := 0) rfl rfl, zw_go (hP.sub (ws' := wD h c u_22) [0, 1, 2, 3, 4, 5, 6, 7, 8] rfl) (hD.sub (ws' := wD h c u_22) [0, 1, 2, 3, 4, 5, 6, 7, 8] (by decide) rfl) (hK.sub (tys' := [(c 21, .long), (c 22, .int), (c 23, .int), (c 24, .int), (c 25, .int), (c 26, .int), (c 27, .int), (c 28, .int)]) [0, 1, 2, 3, 4, 5, 6, 7] rfl) (fun _ _ _ => trivial)⟩ rfl rfl hl.1 rfl (lv_room (Nat.le_of_ble_eq_true rfl)) d_D_special_167 ⟨Nat.le_of_ble_eq_true rfl, Nat.le_of_ble_eq_true rfl⟩) hP hD hS hA [0, 1, 2, 3, 4, 5, 6, 7, 8] [] [0, 1, 2, 3, 4, 5, 6, 7, 8] rfl rfl (by decide) (by decide) (by decide) (fun _ => rfl) (fun u_55 H locs hw hP hD hS => ?_)
    have eu_55 := hw
    have ok_55 : okV u_55 := by rw [eu_55]; exact (ov_gives ok_22)
    exact zl_v (u := u_55) hx hb hr hlocks hS hP hD (by simp only [m_special, ← ex_1, ← ex_4, ← eu_11, ← ex_12, ← eu_16, ← ex_17, ← eu_22, ← ex_49, ← eu_55]; try simp only [if_pos c_23, if_pos c_24]) d_D_special_170
  exact zl_v (u := u_22) hx hb hr hlocks hS hP hD (by simp only [m_special, ← ex_1, ← ex_4, ← eu_11, ← ex_12, ← eu_16, ← ex_17, ← eu_22]; try simp only [if_neg c_23]) d_D_special_113
