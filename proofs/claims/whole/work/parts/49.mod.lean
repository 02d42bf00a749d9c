theorem ov_adds {st : SD} {a b c d t : Int32} (h : okV st) : okV (m_adds st a b c d t) := by
  unfold m_adds
  dsimp only
  with_reducible exact ov_gives (okV_ite h (ov_flags h))
theorem ov_takes {st : SD} {a b c d t : Int32} (h : okV st) : okV (m_takes st a b c d t) := by
  unfold m_takes
  dsimp only
  with_reducible exact ov_gives (okV_ite h (ov_flags h))
theorem ov_divides {st : SD} {a b c d t : Int32} (h : okV st) : okV (m_divides st a b c d t) := by
  have h4 : ∀ x : Int32, okV (m_traps st x (42 : Int32)) := fun x => ov_traps h
  unfold m_divides
  dsimp only
  repeat' first | with_reducible exact h4 _ | with_reducible exact ov_gives (okV_ite (h4 _) (ov_flags (h4 _))) | with_reducible refine okV_ite ?_ ?_
theorem d_D_reckons_0 : decode c_D_reckons 0 = .ok (.iload_n 1, 1) := by decide +kernel
theorem d_D_reckons_1 : decode c_D_reckons 1 = .ok (.bipush 16, 2) := by decide +kernel
theorem d_D_reckons_3 : decode c_D_reckons 3 = .ok (.iand, 1) := by decide +kernel
theorem d_D_reckons_4 : decode c_D_reckons 4 = .ok (.ifCond .le 7, 3) := by decide +kernel
theorem d_D_reckons_7 : decode c_D_reckons 7 = .ok (.iconst 1, 1) := by decide +kernel
theorem d_D_reckons_8 : decode c_D_reckons 8 = .ok (.goto 4, 3) := by decide +kernel
theorem d_D_reckons_11 : decode c_D_reckons 11 = .ok (.iconst 0, 1) := by decide +kernel
theorem d_D_reckons_12 : decode c_D_reckons 12 = .ok (.istore 5, 2) := by decide +kernel
theorem d_D_reckons_14 : decode c_D_reckons 14 = .ok (.iload_n 1, 1) := by decide +kernel
theorem d_D_reckons_15 : decode c_D_reckons 15 = .ok (.bipush 15, 2) := by decide +kernel
theorem d_D_reckons_17 : decode c_D_reckons 17 = .ok (.iand, 1) := by decide +kernel
theorem d_D_reckons_18 : decode c_D_reckons 18 = .ok (.tableswitch 271 0 15 #[78, 162, 172, 182, 108, 192, 204, 216, 90, 271, 228, 228, 120, 271, 138, 150], 78) := by decide +kernel
theorem d_D_reckons_96 : decode c_D_reckons 96 = .ok (.aload_n 0, 1) := by decide +kernel
theorem d_D_reckons_97 : decode c_D_reckons 97 = .ok (.iload_n 2, 1) := by decide +kernel
theorem d_D_reckons_98 : decode c_D_reckons 98 = .ok (.iload_n 3, 1) := by decide +kernel
theorem d_D_reckons_99 : decode c_D_reckons 99 = .ok (.iload 4, 2) := by decide +kernel
theorem d_D_reckons_101 : decode c_D_reckons 101 = .ok (.iconst 0, 1) := by decide +kernel
theorem d_D_reckons_102 : decode c_D_reckons 102 = .ok (.iload 5, 2) := by decide +kernel
theorem d_D_reckons_104 : decode c_D_reckons 104 = .ok (.invokevirtual 351, 3) := by decide +kernel
theorem d_D_reckons_107 : decode c_D_reckons 107 = .ok (.return_, 1) := by decide +kernel
theorem d_D_reckons_108 : decode c_D_reckons 108 = .ok (.aload_n 0, 1) := by decide +kernel
theorem d_D_reckons_109 : decode c_D_reckons 109 = .ok (.iload_n 2, 1) := by decide +kernel
theorem d_D_reckons_110 : decode c_D_reckons 110 = .ok (.iload_n 3, 1) := by decide +kernel
theorem d_D_reckons_111 : decode c_D_reckons 111 = .ok (.iload 4, 2) := by decide +kernel
theorem d_D_reckons_113 : decode c_D_reckons 113 = .ok (.aload_n 0, 1) := by decide +kernel
theorem d_D_reckons_114 : decode c_D_reckons 114 = .ok (.getfield 265, 3) := by decide +kernel
theorem d_D_reckons_117 : decode c_D_reckons 117 = .ok (.invokestatic 355, 3) := by decide +kernel
theorem d_D_reckons_120 : decode c_D_reckons 120 = .ok (.iload 5, 2) := by decide +kernel
theorem d_D_reckons_122 : decode c_D_reckons 122 = .ok (.invokevirtual 351, 3) := by decide +kernel
theorem d_D_reckons_125 : decode c_D_reckons 125 = .ok (.return_, 1) := by decide +kernel
theorem d_D_reckons_126 : decode c_D_reckons 126 = .ok (.aload_n 0, 1) := by decide +kernel
theorem d_D_reckons_127 : decode c_D_reckons 127 = .ok (.iload_n 2, 1) := by decide +kernel
theorem d_D_reckons_128 : decode c_D_reckons 128 = .ok (.iload_n 3, 1) := by decide +kernel
theorem d_D_reckons_129 : decode c_D_reckons 129 = .ok (.iload 4, 2) := by decide +kernel
theorem d_D_reckons_131 : decode c_D_reckons 131 = .ok (.iconst 0, 1) := by decide +kernel
theorem d_D_reckons_132 : decode c_D_reckons 132 = .ok (.iload 5, 2) := by decide +kernel
theorem d_D_reckons_134 : decode c_D_reckons 134 = .ok (.invokevirtual 359, 3) := by decide +kernel
theorem d_D_reckons_137 : decode c_D_reckons 137 = .ok (.return_, 1) := by decide +kernel
theorem d_D_reckons_138 : decode c_D_reckons 138 = .ok (.aload_n 0, 1) := by decide +kernel
theorem d_D_reckons_139 : decode c_D_reckons 139 = .ok (.iload_n 2, 1) := by decide +kernel
theorem d_D_reckons_140 : decode c_D_reckons 140 = .ok (.iload_n 3, 1) := by decide +kernel
theorem d_D_reckons_141 : decode c_D_reckons 141 = .ok (.iload 4, 2) := by decide +kernel
theorem d_D_reckons_143 : decode c_D_reckons 143 = .ok (.aload_n 0, 1) := by decide +kernel
theorem d_D_reckons_144 : decode c_D_reckons 144 = .ok (.getfield 265, 3) := by decide +kernel
theorem d_D_reckons_147 : decode c_D_reckons 147 = .ok (.invokestatic 355, 3) := by decide +kernel
theorem d_D_reckons_150 : decode c_D_reckons 150 = .ok (.iload 5, 2) := by decide +kernel
theorem d_D_reckons_152 : decode c_D_reckons 152 = .ok (.invokevirtual 359, 3) := by decide +kernel
theorem d_D_reckons_155 : decode c_D_reckons 155 = .ok (.return_, 1) := by decide +kernel
theorem d_D_reckons_156 : decode c_D_reckons 156 = .ok (.aload_n 0, 1) := by decide +kernel
theorem d_D_reckons_157 : decode c_D_reckons 157 = .ok (.iload_n 2, 1) := by decide +kernel
theorem d_D_reckons_158 : decode c_D_reckons 158 = .ok (.iload_n 3, 1) := by decide +kernel
theorem d_D_reckons_159 : decode c_D_reckons 159 = .ok (.iload 4, 2) := by decide +kernel
theorem d_D_reckons_161 : decode c_D_reckons 161 = .ok (.iconst 0, 1) := by decide +kernel
theorem d_D_reckons_162 : decode c_D_reckons 162 = .ok (.iload 5, 2) := by decide +kernel
theorem d_D_reckons_164 : decode c_D_reckons 164 = .ok (.invokevirtual 362, 3) := by decide +kernel
theorem d_D_reckons_167 : decode c_D_reckons 167 = .ok (.return_, 1) := by decide +kernel
theorem d_D_reckons_168 : decode c_D_reckons 168 = .ok (.aload_n 0, 1) := by decide +kernel
theorem d_D_reckons_169 : decode c_D_reckons 169 = .ok (.iload_n 2, 1) := by decide +kernel
theorem d_D_reckons_170 : decode c_D_reckons 170 = .ok (.iload_n 3, 1) := by decide +kernel
theorem d_D_reckons_171 : decode c_D_reckons 171 = .ok (.iload 4, 2) := by decide +kernel
theorem d_D_reckons_173 : decode c_D_reckons 173 = .ok (.iconst 1, 1) := by decide +kernel
theorem d_D_reckons_174 : decode c_D_reckons 174 = .ok (.iload 5, 2) := by decide +kernel
theorem d_D_reckons_176 : decode c_D_reckons 176 = .ok (.invokevirtual 362, 3) := by decide +kernel
theorem d_D_reckons_179 : decode c_D_reckons 179 = .ok (.return_, 1) := by decide +kernel
theorem d_D_reckons_180 : decode c_D_reckons 180 = .ok (.iload_n 3, 1) := by decide +kernel
theorem d_D_reckons_181 : decode c_D_reckons 181 = .ok (.iload 4, 2) := by decide +kernel
theorem d_D_reckons_183 : decode c_D_reckons 183 = .ok (.iand, 1) := by decide +kernel
theorem d_D_reckons_184 : decode c_D_reckons 184 = .ok (.i2l, 1) := by decide +kernel
theorem d_D_reckons_185 : decode c_D_reckons 185 = .ok (.lstore 6, 2) := by decide +kernel
theorem d_D_reckons_187 : decode c_D_reckons 187 = .ok (.goto 108, 3) := by decide +kernel
theorem d_D_reckons_190 : decode c_D_reckons 190 = .ok (.iload_n 3, 1) := by decide +kernel
theorem d_D_reckons_191 : decode c_D_reckons 191 = .ok (.iload 4, 2) := by decide +kernel
theorem d_D_reckons_193 : decode c_D_reckons 193 = .ok (.ior, 1) := by decide +kernel
theorem d_D_reckons_194 : decode c_D_reckons 194 = .ok (.i2l, 1) := by decide +kernel
theorem d_D_reckons_195 : decode c_D_reckons 195 = .ok (.lstore 6, 2) := by decide +kernel
theorem d_D_reckons_197 : decode c_D_reckons 197 = .ok (.goto 98, 3) := by decide +kernel
theorem d_D_reckons_200 : decode c_D_reckons 200 = .ok (.iload_n 3, 1) := by decide +kernel
theorem d_D_reckons_201 : decode c_D_reckons 201 = .ok (.iload 4, 2) := by decide +kernel
theorem d_D_reckons_203 : decode c_D_reckons 203 = .ok (.ixor, 1) := by decide +kernel
theorem d_D_reckons_204 : decode c_D_reckons 204 = .ok (.i2l, 1) := by decide +kernel
theorem d_D_reckons_205 : decode c_D_reckons 205 = .ok (.lstore 6, 2) := by decide +kernel
theorem d_D_reckons_207 : decode c_D_reckons 207 = .ok (.goto 88, 3) := by decide +kernel
theorem d_D_reckons_210 : decode c_D_reckons 210 = .ok (.iload_n 3, 1) := by decide +kernel
theorem d_D_reckons_211 : decode c_D_reckons 211 = .ok (.iload 4, 2) := by decide +kernel
theorem d_D_reckons_213 : decode c_D_reckons 213 = .ok (.iconst (-1), 1) := by decide +kernel
theorem d_D_reckons_214 : decode c_D_reckons 214 = .ok (.ixor, 1) := by decide +kernel
theorem d_D_reckons_215 : decode c_D_reckons 215 = .ok (.iand, 1) := by decide +kernel
theorem d_D_reckons_216 : decode c_D_reckons 216 = .ok (.i2l, 1) := by decide +kernel
theorem d_D_reckons_217 : decode c_D_reckons 217 = .ok (.lstore 6, 2) := by decide +kernel
theorem d_D_reckons_219 : decode c_D_reckons 219 = .ok (.goto 76, 3) := by decide +kernel
theorem d_D_reckons_222 : decode c_D_reckons 222 = .ok (.iload_n 3, 1) := by decide +kernel
theorem d_D_reckons_223 : decode c_D_reckons 223 = .ok (.iload 4, 2) := by decide +kernel
theorem d_D_reckons_225 : decode c_D_reckons 225 = .ok (.iconst (-1), 1) := by decide +kernel
theorem d_D_reckons_226 : decode c_D_reckons 226 = .ok (.ixor, 1) := by decide +kernel
theorem d_D_reckons_227 : decode c_D_reckons 227 = .ok (.ior, 1) := by decide +kernel
theorem d_D_reckons_228 : decode c_D_reckons 228 = .ok (.i2l, 1) := by decide +kernel
theorem d_D_reckons_229 : decode c_D_reckons 229 = .ok (.lstore 6, 2) := by decide +kernel
theorem d_D_reckons_231 : decode c_D_reckons 231 = .ok (.goto 64, 3) := by decide +kernel
theorem d_D_reckons_234 : decode c_D_reckons 234 = .ok (.iload_n 3, 1) := by decide +kernel
theorem d_D_reckons_235 : decode c_D_reckons 235 = .ok (.iload 4, 2) := by decide +kernel
theorem d_D_reckons_237 : decode c_D_reckons 237 = .ok (.iconst (-1), 1) := by decide +kernel
theorem d_D_reckons_238 : decode c_D_reckons 238 = .ok (.ixor, 1) := by decide +kernel
theorem d_D_reckons_239 : decode c_D_reckons 239 = .ok (.ixor, 1) := by decide +kernel
theorem d_D_reckons_240 : decode c_D_reckons 240 = .ok (.i2l, 1) := by decide +kernel
theorem d_D_reckons_241 : decode c_D_reckons 241 = .ok (.lstore 6, 2) := by decide +kernel
theorem d_D_reckons_243 : decode c_D_reckons 243 = .ok (.goto 52, 3) := by decide +kernel
theorem d_D_reckons_246 : decode c_D_reckons 246 = .ok (.iload_n 1, 1) := by decide +kernel
theorem d_D_reckons_247 : decode c_D_reckons 247 = .ok (.bipush 15, 2) := by decide +kernel
theorem d_D_reckons_249 : decode c_D_reckons 249 = .ok (.iand, 1) := by decide +kernel
theorem d_D_reckons_250 : decode c_D_reckons 250 = .ok (.bipush 10, 2) := by decide +kernel
theorem d_D_reckons_252 : decode c_D_reckons 252 = .ok (.if_icmp .ne 16, 3) := by decide +kernel
theorem d_D_reckons_255 : decode c_D_reckons 255 = .ok (.iload_n 3, 1) := by decide +kernel
theorem d_D_reckons_256 : decode c_D_reckons 256 = .ok (.invokestatic 326, 3) := by decide +kernel
theorem d_D_reckons_259 : decode c_D_reckons 259 = .ok (.iload 4, 2) := by decide +kernel
theorem d_D_reckons_261 : decode c_D_reckons 261 = .ok (.invokestatic 326, 3) := by decide +kernel
theorem d_D_reckons_264 : decode c_D_reckons 264 = .ok (.lmul, 1) := by decide +kernel
theorem d_D_reckons_265 : decode c_D_reckons 265 = .ok (.goto 9, 3) := by decide +kernel
theorem d_D_reckons_268 : decode c_D_reckons 268 = .ok (.iload_n 3, 1) := by decide +kernel
theorem d_D_reckons_269 : decode c_D_reckons 269 = .ok (.i2l, 1) := by decide +kernel
theorem d_D_reckons_270 : decode c_D_reckons 270 = .ok (.iload 4, 2) := by decide +kernel
theorem d_D_reckons_272 : decode c_D_reckons 272 = .ok (.i2l, 1) := by decide +kernel
theorem d_D_reckons_273 : decode c_D_reckons 273 = .ok (.lmul, 1) := by decide +kernel
theorem d_D_reckons_274 : decode c_D_reckons 274 = .ok (.lstore 6, 2) := by decide +kernel
theorem d_D_reckons_276 : decode c_D_reckons 276 = .ok (.aload_n 0, 1) := by decide +kernel
theorem d_D_reckons_277 : decode c_D_reckons 277 = .ok (.lload 6, 2) := by decide +kernel
theorem d_D_reckons_279 : decode c_D_reckons 279 = .ok (.bipush 32, 2) := by decide +kernel
theorem d_D_reckons_281 : decode c_D_reckons 281 = .ok (.lushr, 1) := by decide +kernel
theorem d_D_reckons_282 : decode c_D_reckons 282 = .ok (.l2i, 1) := by decide +kernel
theorem d_D_reckons_283 : decode c_D_reckons 283 = .ok (.putfield 240, 3) := by decide +kernel
theorem d_D_reckons_286 : decode c_D_reckons 286 = .ok (.goto 9, 3) := by decide +kernel
theorem d_D_reckons_289 : decode c_D_reckons 289 = .ok (.aload_n 0, 1) := by decide +kernel
theorem d_D_reckons_290 : decode c_D_reckons 290 = .ok (.iconst 2, 1) := by decide +kernel
theorem d_D_reckons_291 : decode c_D_reckons 291 = .ok (.putfield 312, 3) := by decide +kernel
theorem d_D_reckons_294 : decode c_D_reckons 294 = .ok (.return_, 1) := by decide +kernel
theorem d_D_reckons_295 : decode c_D_reckons 295 = .ok (.iload 5, 2) := by decide +kernel
theorem d_D_reckons_297 : decode c_D_reckons 297 = .ok (.ifCond .eq 11, 3) := by decide +kernel
theorem d_D_reckons_300 : decode c_D_reckons 300 = .ok (.aload_n 0, 1) := by decide +kernel
theorem d_D_reckons_301 : decode c_D_reckons 301 = .ok (.lload 6, 2) := by decide +kernel
theorem d_D_reckons_303 : decode c_D_reckons 303 = .ok (.iconst 0, 1) := by decide +kernel
theorem d_D_reckons_304 : decode c_D_reckons 304 = .ok (.iconst 0, 1) := by decide +kernel
theorem d_D_reckons_305 : decode c_D_reckons 305 = .ok (.invokevirtual 330, 3) := by decide +kernel
theorem d_D_reckons_308 : decode c_D_reckons 308 = .ok (.aload_n 0, 1) := by decide +kernel
theorem d_D_reckons_309 : decode c_D_reckons 309 = .ok (.iload_n 2, 1) := by decide +kernel
theorem d_D_reckons_310 : decode c_D_reckons 310 = .ok (.aload_n 0, 1) := by decide +kernel
theorem d_D_reckons_311 : decode c_D_reckons 311 = .ok (.getfield 237, 3) := by decide +kernel
theorem d_D_reckons_314 : decode c_D_reckons 314 = .ok (.lload 6, 2) := by decide +kernel
theorem d_D_reckons_316 : decode c_D_reckons 316 = .ok (.l2i, 1) := by decide +kernel
theorem d_D_reckons_317 : decode c_D_reckons 317 = .ok (.invokevirtual 309, 3) := by decide +kernel
theorem d_D_reckons_320 : decode c_D_reckons 320 = .ok (.return_, 1) := by decide +kernel
theorem kd_D_reckons : (y_D_reckons).cls = "WindowMachineModel" ∧ (y_D_reckons).cls ≠ "java/lang/invoke/MethodHandle" ∧ (y_D_reckons).cls ≠ "java/lang/invoke/VarHandle" ∧ (parseMethodDescriptor (y_D_reckons).desc).map (fun d => d.parameters.length) = some 4 := by decide +kernel
def m_reckons (st : SD) (p0 : Int32) (p1 : Int32) (p2 : Int32) (p3 : Int32) : SD := (let x_1 := (if (p0 &&& (16 : Int32)) ≤ (0 : Int32) then (0 : Int32) else (1 : Int32)); (if (p0 &&& (15 : Int32)) = (0 : Int32) then (let u_6 := m_adds st p1 p2 p3 (0 : Int32) x_1; u_6) else (if (p0 &&& (15 : Int32)) = (1 : Int32) then (let u_8 := (if x_1 = (0 : Int32) then st else m_flags st ((p2 &&& p3).toInt64) (0 : Int32) (0 : Int32)); (let u_12 := m_gives u_8 p1 (u_8.1 6) (((p2 &&& p3).toInt64).toInt32); u_12)) else (if (p0 &&& (15 : Int32)) = (2 : Int32) then (let u_14 := (if x_1 = (0 : Int32) then st else m_flags st ((p2 ||| p3).toInt64) (0 : Int32) (0 : Int32)); (let u_18 := m_gives u_14 p1 (u_14.1 6) (((p2 ||| p3).toInt64).toInt32); u_18)) else (if (p0 &&& (15 : Int32)) = (3 : Int32) then (let u_20 := (if x_1 = (0 : Int32) then st else m_flags st ((p2 ^^^ p3).toInt64) (0 : Int32) (0 : Int32)); (let u_24 := m_gives u_20 p1 (u_20.1 6) (((p2 ^^^ p3).toInt64).toInt32); u_24)) else (if (p0 &&& (15 : Int32)) = (4 : Int32) then (let u_26 := m_takes st p1 p2 p3 (0 : Int32) x_1; u_26) else (if (p0 &&& (15 : Int32)) = (5 : Int32) then (let x_28 := (p2 &&& (p3 ^^^ (-1 : Int32))).toInt64; (let u_29 := (if x_1 = (0 : Int32) then st else m_flags st x_28 (0 : Int32) (0 : Int32)); (let u_33 := m_gives u_29 p1 (u_29.1 6) x_28.toInt32; u_33))) else (if (p0 &&& (15 : Int32)) = (6 : Int32) then (let x_35 := (p2 ||| (p3 ^^^ (-1 : Int32))).toInt64; (let u_36 := (if x_1 = (0 : Int32) then st else m_flags st x_35 (0 : Int32) (0 : Int32)); (let u_40 := m_gives u_36 p1 (u_36.1 6) x_35.toInt32; u_40))) else (if (p0 &&& (15 : Int32)) = (7 : Int32) then (let x_42 := (p2 ^^^ (p3 ^^^ (-1 : Int32))).toInt64; (let u_43 := (if x_1 = (0 : Int32) then st else m_flags st x_42 (0 : Int32) (0 : Int32)); (let u_47 := m_gives u_43 p1 (u_43.1 6) x_42.toInt32; u_47))) else (if (p0 &&& (15 : Int32)) = (8 : Int32) then (let r_49 := m_bit (st.1 16); (let u_50 := m_adds st p1 p2 p3 r_49 x_1; u_50)) else (if (p0 &&& (15 : Int32)) = (10 : Int32) then (let x_52 := (if (p0 &&& (15 : Int32)) = (10 : Int32) then (m_bare p2) * (m_bare p3) else p2.toInt64 * p3.toInt64); (let u_57 := (if x_1 = (0 : Int32) then (upd st.1 7 ((zlushr x_52 (32 : Int32)).toInt32), st.2.1, st.2.2.1, st.2.2.2.1, st.2.2.2.2.1, st.2.2.2.2.2) else m_flags (upd st.1 7 ((zlushr x_52 (32 : Int32)).toInt32), st.2.1, st.2.2.1, st.2.2.2.1, st.2.2.2.2.1, st.2.2.2.2.2) x_52 (0 : Int32) (0 : Int32)); (let u_61 := m_gives u_57 p1 (u_57.1 6) x_52.toInt32; u_61))) else (if (p0 &&& (15 : Int32)) = (11 : Int32) then (let x_63 := (if (p0 &&& (15 : Int32)) = (10 : Int32) then (m_bare p2) * (m_bare p3) else p2.toInt64 * p3.toInt64); (let u_68 := (if x_1 = (0 : Int32) then (upd st.1 7 ((zlushr x_63 (32 : Int32)).toInt32), st.2.1, st.2.2.1, st.2.2.2.1, st.2.2.2.2.1, st.2.2.2.2.2) else m_flags (upd st.1 7 ((zlushr x_63 (32 : Int32)).toInt32), st.2.1, st.2.2.1, st.2.2.2.1, st.2.2.2.2.1, st.2.2.2.2.2) x_63 (0 : Int32) (0 : Int32)); (let u_72 := m_gives u_68 p1 (u_68.1 6) x_63.toInt32; u_72))) else (if (p0 &&& (15 : Int32)) = (12 : Int32) then (let r_74 := m_bit (st.1 16); (let u_75 := m_takes st p1 p2 p3 r_74 x_1; u_75)) else (if (p0 &&& (15 : Int32)) = (14 : Int32) then (let u_77 := m_divides st p1 p2 p3 (0 : Int32) x_1; u_77) else (if (p0 &&& (15 : Int32)) = (15 : Int32) then (let u_79 := m_divides st p1 p2 p3 (1 : Int32) x_1; u_79) else (upd st.1 21 (2 : Int32), st.2.1, st.2.2.1, st.2.2.2.1, st.2.2.2.2.1, st.2.2.2.2.2))))))))))))))))
set_option maxHeartbeats 4000000 in
set_option maxRecDepth 100000 in
theorem mt_D_reckons (l : Launch) (D : va_G) (h : Nat → Nat) (c : Nat → ClassId) (sz : Nat) (st : SD) (p0 : Int32) (p1 : Int32) (p2 : Int32) (p3 : Int32) (hV : okV st) (hr9 : vp_in p1 32) : Met l y_D_reckons w_D_reckons ({ frames := 2, cells := 0, slots := 0, locals := 60 }) (va_Pc [.ref (h 20), .int p0, .int p1, .int p2, .int p3] (zw_pre D vwCl [(c 21, .long), (c 22, .int), (c 23, .int), (c 24, .int), (c 25, .int), (c 26, .int), (c 27, .int), (c 28, .int)] sz (wD h c st) (fun _ => True))) (va_Qv (fun (u : SD) => u = m_reckons st p0 p1 p2 p3) (fun u t => zw_at D vwCl (va_A (wD h c st) sz) ((fun (u : SD) => wD h c u) u) t) (va_A (wD h c st) sz)) 0 0 (va_A (wD h c st) sz) := by
  refine zm (Qf := fun A => va_Qv (fun (u : SD) => u = m_reckons st p0 p1 p2 p3) (fun u t => zw_at D vwCl A ((fun (u : SD) => wD h c u) u) t) A) (Zf := fun _ _ => True) (cc := c_D_reckons) (nL := 8) (ret := none) (by decide) rfl (Nat.le_of_ble_eq_true rfl) ?_
  intro p e s m below meth c9 A H locs ls hx hb hml hown hts hr hlocks hA hK hP hD hS hZ hl
  have hl : lv_has ls 8 [(0, .ref (h 20)), (1, .int p0), (2, .int p1), (3, .int p2), (4, .int p3)] := hl
  have ht : ∀ w9 ∈ zT, w9.before _ s = true := fun w9 h9 => hts w9 (List.mem_cons_of_mem _ h9)
  refine lv_iload_n hx hb d_D_reckons_0 rfl (lv_at hl 1 rfl) ?_
  refine lv_bipush (v := (16 : Int32)) hx hb d_D_reckons_1 (by decide) ?_
  refine lv_iand hx hb d_D_reckons_3 ?_
  refine zcut (X := Int32) (G := fun v9 H locs ls => v9 = (if (p0 &&& (16 : Int32)) ≤ (0 : Int32) then (0 : Int32) else (1 : Int32)) ∧ va_P D vwCl (wD h c st) H ∧ va_D A (wD h c st) ∧ va_S A s.heap H locs ∧ lv_has ls 8 [(0, .ref (h 20)), (1, .int p0), (2, .int p1), (3, .int p2), (4, .int p3)]) (fr := fun v9 ls => F0 m 12 ls [.int v9]) (fun J_2 => ?_) (fun v9 H locs ls hG => ?_)
  · refine lv_if_le (tgt := 11) hx hb d_D_reckons_4 (by decide) (fun c_3 => ?_) (fun c_3 => ?_)
    · refine lv_iconst (v := (0 : Int32)) hx hb d_D_reckons_11 (by decide) ?_
      exact J_2 (0 : Int32) _ _ _ ⟨by simp only [if_pos c_3], hP, hD, hS, hl⟩
    refine lv_iconst (v := (1 : Int32)) hx hb d_D_reckons_7 (by decide) ?_
    refine lv_goto (tgt := 12) hx hb d_D_reckons_8 (by decide) ?_
    exact J_2 (1 : Int32) _ _ _ ⟨by simp only [if_neg c_3], hP, hD, hS, hl⟩
  obtain ⟨x_1, rfl⟩ : ∃ z, z = v9 := ⟨_, rfl⟩
  obtain ⟨ex_1, hP, hD, hS, hl⟩ := hG
  have zbx_1 : zB x_1 := by rw [ex_1]; repeat' first | with_reducible exact zB0 | with_reducible exact zB1 | with_reducible assumption | with_reducible refine zB_ite ?_ ?_
  refine lv_istore (lv' := [(5, .int x_1), (0, .ref (h 20)), (1, .int p0), (2, .int p1), (3, .int p2), (4, .int p3)]) hx hb d_D_reckons_12 hl (by decide) rfl (fun ls hl => ?_)
  refine lv_iload_n hx hb d_D_reckons_14 rfl (lv_at hl 2 rfl) ?_
  refine lv_bipush (v := (15 : Int32)) hx hb d_D_reckons_15 (by decide) ?_
  refine lv_iand hx hb d_D_reckons_17 ?_
  by_cases c_5 : (p0 &&& (15 : Int32)) = (0 : Int32)
  · refine lv_tableIn (tgt := 96) hx hb d_D_reckons_18 (by rw [c_5]; decide) (by rw [c_5]; decide) (by rw [c_5]; rfl) (by decide) ?_
    refine lv_aload_n hx hb d_D_reckons_96 rfl (lv_at hl 1 rfl) ?_
    refine lv_iload_n hx hb d_D_reckons_97 rfl (lv_at hl 3 rfl) ?_
    refine lv_iload_n hx hb d_D_reckons_98 rfl (lv_at hl 4 rfl) ?_
    refine lv_iload hx hb d_D_reckons_99 (lv_at hl 5 rfl) ?_
    refine lv_iconst (v := (0 : Int32)) hx hb d_D_reckons_101 (by decide) ?_
    refine lv_iload hx hb d_D_reckons_102 (lv_at hl 0 rfl) ?_
    refine zc_v (w2 := fun u9 => wD h c u9) (va_runV (As := [.int p1, .int p2, .int p3, .int (0 : Int32), .int x_1]) (rest := []) ⟨hx, hb, hml, hown, ht⟩ (mt_D_adds l D h c H.size st p1 p2 p3 (0 : Int32) x_1 hV hr9) (cwV 5 ht (zgV zw_1031 zw_1033 zs_65 zw_7 zw_1034) rfl rfl rfl kd_D_adds ⟨Nat.le_of_ble_eq_true rfl, Nat.le_of_ble_eq_true rfl⟩) ⟨zw_blind zw_tt, va_recv (hK.sub (tys' := [(c 21, .long), (c 22, .int), (c 23, .int), (c 24, .int), (c 25, .int), (c 26, .int), (c 27, .int), (c 28, .int)]) [0, 1, 2, 3, 4, 5, 6, 7] rfl) (hP.sub (ws' := wD h c st) [0, 1, 2, 3, 4, 5, 6, 7, 8] rfl) (ci := 6) (q0 := 0) rfl rfl, zw_go (hP.sub (ws' := wD h c st) [0, 1, 2, 3, 4, 5, 6, 7, 8] rfl) (hD.sub (ws' := wD h c st) [0, 1, 2, 3, 4, 5, 6, 7, 8] (by decide) rfl) (hK.sub (tys' := [(c 21, .long), (c 22, .int), (c 23, .int), (c 24, .int), (c 25, .int), (c 26, .int), (c 27, .int), (c 28, .int)]) [0, 1, 2, 3, 4, 5, 6, 7] rfl) (fun _ _ _ => trivial)⟩ rfl rfl hl.1 rfl (lv_room (Nat.le_of_ble_eq_true rfl)) d_D_reckons_104 ⟨Nat.le_of_ble_eq_true rfl, Nat.le_of_ble_eq_true rfl⟩) hP hD hS hA [0, 1, 2, 3, 4, 5, 6, 7, 8] [] [0, 1, 2, 3, 4, 5, 6, 7, 8] rfl rfl (by decide) (by decide) (by decide) (fun _ => rfl) (fun u_6 H locs hw hP hD hS => ?_)
    have eu_6 := hw
    have ok_6 : okV u_6 := by rw [eu_6]; exact (ov_adds hV)
    exact zl_v (u := u_6) hx hb hr hlocks hS hP hD (by simp only [m_reckons, ← ex_1, ← eu_6]; try simp only [if_pos c_5]) d_D_reckons_107
  by_cases c_7 : (p0 &&& (15 : Int32)) = (1 : Int32)
  · refine lv_tableIn (tgt := 180) hx hb d_D_reckons_18 (by rw [c_7]; decide) (by rw [c_7]; decide) (by rw [c_7]; rfl) (by decide) ?_
    refine lv_iload_n hx hb d_D_reckons_180 rfl (lv_at hl 4 rfl) ?_
    refine lv_iload hx hb d_D_reckons_181 (lv_at hl 5 rfl) ?_
    refine lv_iand hx hb d_D_reckons_183 ?_
    refine lv_i2l (v := (p2 &&& p3).toInt64) hx hb d_D_reckons_184 rfl ?_
    refine lv_lstore (lv' := [(6, .long ((p2 &&& p3).toInt64)), (5, .int x_1), (0, .ref (h 20)), (1, .int p0), (2, .int p1), (3, .int p2), (4, .int p3)]) hx hb d_D_reckons_185 hl (by decide) rfl (fun ls hl => ?_)
    refine lv_goto (tgt := 295) hx hb d_D_reckons_187 (by decide) ?_
    refine lv_iload hx hb d_D_reckons_295 (lv_at hl 1 rfl) ?_
    refine zcut (X := SD) (G := fun v9 H locs ls => v9 = (if x_1 = (0 : Int32) then st else m_flags st ((p2 &&& p3).toInt64) (0 : Int32) (0 : Int32)) ∧ va_P D vwCl (wD h c v9) H ∧ va_D A (wD h c v9) ∧ va_S A s.heap H locs ∧ lv_has ls 8 [(0, .ref (h 20)), (1, .int p0), (2, .int p1), (3, .int p2), (4, .int p3), (5, .int x_1), (6, .long ((p2 &&& p3).toInt64))]) (fr := fun v9 ls => F0 m 308 ls []) (fun J_9 => ?_) (fun v9 H locs ls hG => ?_)
    · refine lv_if_eq (tgt := 308) hx hb d_D_reckons_297 (by decide) (fun c_10 => ?_) (fun c_10 => ?_)
      · exact J_9 st _ _ _ ⟨by simp only [if_pos c_10], hP, hD, hS, (lv_sub hl [2, 3, 4, 5, 6, 1, 0] rfl)⟩
      refine lv_aload_n hx hb d_D_reckons_300 rfl (lv_at hl 2 rfl) ?_
      refine lv_lload hx hb d_D_reckons_301 (lv_at hl 0 rfl) ?_
      refine lv_iconst (v := (0 : Int32)) hx hb d_D_reckons_303 (by decide) ?_
      refine lv_iconst (v := (0 : Int32)) hx hb d_D_reckons_304 (by decide) ?_
      refine zc_v (w2 := fun u9 => wD h c u9) (va_runV (As := [.long ((p2 &&& p3).toInt64), .int (0 : Int32), .int (0 : Int32)]) (rest := []) ⟨hx, hb, hml, hown, ht⟩ (mt_D_flags l D h c H.size st ((p2 &&& p3).toInt64) (0 : Int32) (0 : Int32) zB0 zB0) (cwV 3 ht (zgV zw_1039 zw_1041 zs_66 zw_7 zw_1042) rfl rfl rfl kd_D_flags ⟨Nat.le_of_ble_eq_true rfl, Nat.le_of_ble_eq_true rfl⟩) ⟨zw_blind zw_tt, va_recv (hK.sub (tys' := [(c 21, .long), (c 22, .int), (c 23, .int), (c 24, .int), (c 25, .int), (c 26, .int), (c 27, .int), (c 28, .int)]) [0, 1, 2, 3, 4, 5, 6, 7] rfl) (hP.sub (ws' := wD h c st) [0, 1, 2, 3, 4, 5, 6, 7, 8] rfl) (ci := 6) (q0 := 0) rfl rfl, zw_go (hP.sub (ws' := wD h c st) [0, 1, 2, 3, 4, 5, 6, 7, 8] rfl) (hD.sub (ws' := wD h c st) [0, 1, 2, 3, 4, 5, 6, 7, 8] (by decide) rfl) (hK.sub (tys' := [(c 21, .long), (c 22, .int), (c 23, .int), (c 24, .int), (c 25, .int), (c 26, .int), (c 27, .int), (c 28, .int)]) [0, 1, 2, 3, 4, 5, 6, 7] rfl) (fun _ _ _ => trivial)⟩ rfl rfl hl.1 rfl (lv_room (Nat.le_of_ble_eq_true rfl)) d_D_reckons_305 ⟨Nat.le_of_ble_eq_true rfl, Nat.le_of_ble_eq_true rfl⟩) hP hD hS hA [0, 1, 2, 3, 4, 5, 6, 7, 8] [] [0, 1, 2, 3, 4, 5, 6, 7, 8] rfl rfl (by decide) (by decide) (by decide) (fun _ => rfl) (fun u_11 H locs hw hP hD hS => ?_)
      subst hw
      exact J_9 (m_flags st ((p2 &&& p3).toInt64) (0 : Int32) (0 : Int32)) _ _ _ ⟨by simp only [if_neg c_10], hP, hD, hS, (lv_sub hl [2, 3, 4, 5, 6, 1, 0] rfl)⟩
    obtain ⟨u_8, rfl⟩ : ∃ z, z = v9 := ⟨_, rfl⟩
    obtain ⟨eu_8, hP, hD, hS, hl⟩ := hG
    have ok_8 : okV u_8 := by rw [eu_8]; exact (okV_iteD (fun c_8 => hV) (fun c_8 => (ov_flags hV)))
    refine lv_aload_n hx hb d_D_reckons_308 rfl (lv_at hl 0 rfl) ?_
    refine lv_iload_n hx hb d_D_reckons_309 rfl (lv_at hl 2 rfl) ?_
    refine lv_aload_n hx hb d_D_reckons_310 rfl (lv_at hl 0 rfl) ?_
    refine va_get (D := D) (ci := 6) (v := .int (u_8.1 6)) (C := "WindowMachineModel") (T := T_D) (N := 31) hx hb ht zi_D hown hK hP 0 rfl rfl 14 (by decide) (ht _ zw_868) (fun _ h9 => h9) rfl d_D_reckons_311 ?_
    refine lv_lload hx hb d_D_reckons_314 (lv_at hl 6 rfl) ?_
    refine lv_l2i (v := ((p2 &&& p3).toInt64).toInt32) hx hb d_D_reckons_316 rfl ?_
    refine zc_v (w2 := fun u9 => wD h c u9) (va_runV (As := [.int p1, .int (u_8.1 6), .int (((p2 &&& p3).toInt64).toInt32)]) (rest := []) ⟨hx, hb, hml, hown, ht⟩ (mt_D_gives l D h c H.size u_8 p1 (u_8.1 6) (((p2 &&& p3).toInt64).toInt32) hr9 (ok_8).1) (cwV 3 ht (zgV zw_990 zw_992 zs_57 zw_7 zw_993) rfl rfl rfl kd_D_gives ⟨Nat.le_of_ble_eq_true rfl, Nat.le_of_ble_eq_true rfl⟩) ⟨zw_blind zw_tt, va_recv (hK.sub (tys' := [(c 21, .long), (c 22, .int), (c 23, .int), (c 24, .int), (c 25, .int), (c 26, .int), (c 27, .int), (c 28, .int)]) [0, 1, 2, 3, 4, 5, 6, 7] rfl) (hP.sub (ws' := wD h c u_8) [0, 1, 2, 3, 4, 5, 6, 7, 8] rfl) (ci := 6) (q0 := 0) rfl rfl, zw_go (hP.sub (ws' := wD h c u_8) [0, 1, 2, 3, 4, 5, 6, 7, 8] rfl) (hD.sub (ws' := wD h c u_8) [0, 1, 2, 3, 4, 5, 6, 7, 8] (by decide) rfl) (hK.sub (tys' := [(c 21, .long), (c 22, .int), (c 23, .int), (c 24, .int), (c 25, .int), (c 26, .int), (c 27, .int), (c 28, .int)]) [0, 1, 2, 3, 4, 5, 6, 7] rfl) (fun _ _ _ => trivial)⟩ rfl rfl hl.1 rfl (lv_room (Nat.le_of_ble_eq_true rfl)) d_D_reckons_317 ⟨Nat.le_of_ble_eq_true rfl, Nat.le_of_ble_eq_true rfl⟩) hP hD hS hA [0, 1, 2, 3, 4, 5, 6, 7, 8] [] [0, 1, 2, 3, 4, 5, 6, 7, 8] rfl rfl (by decide) (by decide) (by decide) (fun _ => rfl) (fun u_12 H locs hw hP hD hS => ?_)
    have eu_12 := hw
    have ok_12 : okV u_12 := by rw [eu_12]; exact (ov_gives ok_8)
    exact zl_v (u := u_12) hx hb hr hlocks hS hP hD (by simp only [m_reckons, ← ex_1, ← eu_8, ← eu_12]; try simp only [if_neg c_5, if_pos c_7]) d_D_reckons_320
  by_cases c_13 : (p0 &&& (15 : Int32)) = (2 : Int32)
  · refine lv_tableIn (tgt := 190) hx hb d_D_reckons_18 (by rw [c_13]; decide) (by rw [c_13]; decide) (by rw [c_13]; rfl) (by decide) ?_
    refine lv_iload_n hx hb d_D_reckons_190 rfl (lv_at hl 4 rfl) ?_
    refine lv_iload hx hb d_D_reckons_191 (lv_at hl 5 rfl) ?_
    refine lv_ior hx hb d_D_reckons_193 ?_
    refine lv_i2l (v := (p2 ||| p3).toInt64) hx hb d_D_reckons_194 rfl ?_
    refine lv_lstore (lv' := [(6, .long ((p2 ||| p3).toInt64)), (5, .int x_1), (0, .ref (h 20)), (1, .int p0), (2, .int p1), (3, .int p2), (4, .int p3)]) hx hb d_D_reckons_195 hl (by decide) rfl (fun ls hl => ?_)
    refine lv_goto (tgt := 295) hx hb d_D_reckons_197 (by decide) ?_
    refine lv_iload hx hb d_D_reckons_295 (lv_at hl 1 rfl) ?_
    refine zcut (X := SD) (G := fun v9 H locs ls => v9 = (if x_1 = (0 : Int32) then st else m_flags st ((p2 ||| p3).toInt64) (0 : Int32) (0 : Int32)) ∧ va_P D vwCl (wD h c v9) H ∧ va_D A (wD h c v9) ∧ va_S A s.heap H locs ∧ lv_has ls 8 [(0, .ref (h 20)), (1, .int p0), (2, .int p1), (3, .int p2), (4, .int p3), (5, .int x_1), (6, .long ((p2 ||| p3).toInt64))]) (fr := fun v9 ls => F0 m 308 ls []) (fun J_15 => ?_) (fun v9 H locs ls hG => ?_)
    · refine lv_if_eq (tgt := 308) hx hb d_D_reckons_297 (by decide) (fun c_16 => ?_) (fun c_16 => ?_)
      · exact J_15 st _ _ _ ⟨by simp only [if_pos c_16], hP, hD, hS, (lv_sub hl [2, 3, 4, 5, 6, 1, 0] rfl)⟩
      refine lv_aload_n hx hb d_D_reckons_300 rfl (lv_at hl 2 rfl) ?_
      refine lv_lload hx hb d_D_reckons_301 (lv_at hl 0 rfl) ?_
      refine lv_iconst (v := (0 : Int32)) hx hb d_D_reckons_303 (by decide) ?_
      refine lv_iconst (v := (0 : Int32)) hx hb d_D_reckons_304 (by decide) ?_
      refine zc_v (w2 := fun u9 => wD h c u9) (va_runV (As := [.long ((p2 ||| p3).toInt64), .int (0 : Int32), .int (0 : Int32)]) (rest := []) ⟨hx, hb, hml, hown, ht⟩ (mt_D_flags l D h c H.size st ((p2 ||| p3).toInt64) (0 : Int32) (0 : Int32) zB0 zB0) (cwV 3 ht (zgV zw_1039 zw_1041 zs_66 zw_7 zw_1042) rfl rfl rfl kd_D_flags ⟨Nat.le_of_ble_eq_true rfl, Nat.le_of_ble_eq_true rfl⟩) ⟨zw_blind zw_tt, va_recv (hK.sub (tys' := [(c 21, .long), (c 22, .int), (c 23, .int), (c 24, .int), (c 25, .int), (c 26, .int), (c 27, .int), (c 28, .int)]) [0, 1, 2, 3, 4, 5, 6, 7] rfl) (hP.sub (ws' := wD h c st) [0, 1, 2, 3, 4, 5, 6, 7, 8] rfl) (ci := 6) (q0 := 0) rfl rfl, zw_go (hP.sub (ws' := wD h c st) [0, 1, 2, 3, 4, 5, 6, 7, 8] rfl) (hD.sub (ws' := wD h c st) [0, 1, 2, 3, 4, 5, 6, 7, 8] (by decide) rfl) (hK.sub (tys' := [(c 21, .long), (c 22, .int), (c 23, .int), (c 24, .int), (c 25, .int), (c 26, .int), (c 27, .int), (c 28, .int)]) [0, 1, 2, 3, 4, 5, 6, 7] rfl) (fun _ _ _ => trivial)⟩ rfl rfl hl.1 rfl (lv_room (Nat.le_of_ble_eq_true rfl)) d_D_reckons_305 ⟨Nat.le_of_ble_eq_true rfl, Nat.le_of_ble_eq_true rfl⟩) hP hD hS hA [0, 1, 2, 3, 4, 5, 6, 7, 8] [] [0, 1, 2, 3, 4, 5, 6, 7, 8] rfl rfl (by decide) (by decide) (by decide) (fun _ => rfl) (fun u_17 H locs hw hP hD hS => ?_)
      subst hw
      exact J_15 (m_flags st ((p2 ||| p3).toInt64) (0 : Int32) (0 : Int32)) _ _ _ ⟨by simp only [if_neg c_16], hP, hD, hS, (lv_sub hl [2, 3, 4, 5, 6, 1, 0] rfl)⟩
    obtain ⟨u_14, rfl⟩ : ∃ z, z = v9 := ⟨_, rfl⟩
    obtain ⟨eu_14, hP, hD, hS, hl⟩ := hG
    have ok_14 : okV u_14 := by rw [eu_14]; exact (okV_iteD (fun c_14 => hV) (fun c_14 => (ov_flags hV)))
    refine lv_aload_n hx hb d_D_reckons_308 rfl (lv_at hl 0 rfl) ?_
    refine lv_iload_n hx hb d_D_reckons_309 rfl (lv_at hl 2 rfl) ?_
    refine lv_aload_n hx hb d_D_reckons_310 rfl (lv_at hl 0 rfl) ?_
    refine va_get (D := D) (ci := 6) (v := .int (u_14.1 6)) (C := "WindowMachineModel") (T := T_D) (N := 31) hx hb ht zi_D hown hK hP 0 rfl rfl 14 (by decide) (ht _ zw_868) (fun _ h9 => h9) rfl d_D_reckons_311 ?_
    refine lv_lload hx hb d_D_reckons_314 (lv_at hl 6 rfl) ?_
    refine lv_l2i (v := ((p2 ||| p3).toInt64).toInt32) hx hb d_D_reckons_316 rfl ?_
    refine zc_v (w2 := fun u9 => wD h c u9) (va_runV (As := [.int p1, .int (u_14.1 6), .int (((p2 ||| p3).toInt64).toInt32)]) (rest := []) ⟨hx, hb, hml, hown, ht⟩ (mt_D_gives l D h c H.size u_14 p1 (u_14.1 6) (((p2 ||| p3).toInt64).toInt32) hr9 (ok_14).1) (cwV 3 ht (zgV zw_990 zw_992 zs_57 zw_7 zw_993) rfl rfl rfl kd_D_gives ⟨Nat.le_of_ble_eq_true rfl, Nat.le_of_ble_eq_true rfl⟩) ⟨zw_blind zw_tt, va_recv (hK.sub (tys' := [(c 21, .long), (c 22, .int), (c 23, .int), (c 24, .int), (c 25, .int), (c 26, .int), (c 27, .int), (c 28, .int)]) [0, 1, 2, 3, 4, 5, 6, 7] rfl) (hP.sub (ws' := wD h c u_14) [0, 1, 2, 3, 4, 5, 6, 7, 8] rfl) (ci := 6) (q0 := 0) rfl rfl, zw_go (hP.sub (ws' := wD h c u_14) [0, 1, 2, 3, 4, 5, 6, 7, 8] rfl) (hD.sub (ws' := wD h c u_14) [0, 1, 2, 3, 4, 5, 6, 7, 8] (by decide) rfl) (hK.sub (tys' := [(c 21, .long), (c 22, .int), (c 23, .int), (c 24, .int), (c 25, .int), (c 26, .int), (c 27, .int), (c 28, .int)]) [0, 1, 2, 3, 4, 5, 6, 7] rfl) (fun _ _ _ => trivial)⟩ rfl rfl hl.1 rfl (lv_room (Nat.le_of_ble_eq_true rfl)) d_D_reckons_317 ⟨Nat.le_of_ble_eq_true rfl, Nat.le_of_ble_eq_true rfl⟩) hP hD hS hA [0, 1, 2, 3, 4, 5, 6, 7, 8] [] [0, 1, 2, 3, 4, 5, 6, 7, 8] rfl rfl (by decide) (by decide) (by decide) (fun _ => rfl) (fun u_18 H locs hw hP hD hS => ?_)
    have eu_18 := hw
    have ok_18 : okV u_18 := by rw [eu_18]; exact (ov_gives ok_14)
    exact zl_v (u := u_18) hx hb hr hlocks hS hP hD (by simp only [m_reckons, ← ex_1, ← eu_14, ← eu_18]; try simp only [if_neg c_5, if_neg c_7, if_pos c_13]) d_D_reckons_320
  by_cases c_19 : (p0 &&& (15 : Int32)) = (3 : Int32)
  · refine lv_tableIn (tgt := 200) hx hb d_D_reckons_18 (by rw [c_19]; decide) (by rw [c_19]; decide) (by rw [c_19]; rfl) (by decide) ?_
    refine lv_iload_n hx hb d_D_reckons_200 rfl (lv_at hl 4 rfl) ?_
    refine lv_iload hx hb d_D_reckons_201 (lv_at hl 5 rfl) ?_
    refine lv_ixor hx hb d_D_reckons_203 ?_
    refine lv_i2l (v := (p2 ^^^ p3).toInt64) hx hb d_D_reckons_204 rfl ?_
    refine lv_lstore (lv' := [(6, .long ((p2 ^^^ p3).toInt64)), (5, .int x_1), (0, .ref (h 20)), (1, .int p0), (2, .int p1), (3, .int p2), (4, .int p3)]) hx hb d_D_reckons_205 hl (by decide) rfl (fun ls hl => ?_)
    refine lv_goto (tgt := 295) hx hb d_D_reckons_207 (by decide) ?_
    refine lv_iload hx hb d_D_reckons_295 (lv_at hl 1 rfl) ?_
    refine zcut (X := SD) (G := fun v9 H locs ls => v9 = (if x_1 = (0 : Int32) then st else m_flags st ((p2 ^^^ p3).toInt64) (0 : Int32) (0 : Int32)) ∧ va_P D vwCl (wD h c v9) H ∧ va_D A (wD h c v9) ∧ va_S A s.heap H locs ∧ lv_has ls 8 [(0, .ref (h 20)), (1, .int p0), (2, .int p1), (3, .int p2), (4, .int p3), (5, .int x_1), (6, .long ((p2 ^^^ p3).toInt64))]) (fr := fun v9 ls => F0 m 308 ls []) (fun J_21 => ?_) (fun v9 H locs ls hG => ?_)
    · refine lv_if_eq (tgt := 308) hx hb d_D_reckons_297 (by decide) (fun c_22 => ?_) (fun c_22 => ?_)
      · exact J_21 st _ _ _ ⟨by simp only [if_pos c_22], hP, hD, hS, (lv_sub hl [2, 3, 4, 5, 6, 1, 0] rfl)⟩
      refine lv_aload_n hx hb d_D_reckons_300 rfl (lv_at hl 2 rfl) ?_
      refine lv_lload hx hb d_D_reckons_301 (lv_at hl 0 rfl) ?_
      refine lv_iconst (v := (0 : Int32)) hx hb d_D_reckons_303 (by decide) ?_
      refine lv_iconst (v := (0 : Int32)) hx hb d_D_reckons_304 (by decide) ?_
      refine zc_v (w2 := fun u9 => wD h c u9) (va_runV (As := [.long ((p2 ^^^ p3).toInt64), .int (0 : Int32), .int (0 : Int32)]) (rest := []) ⟨hx, hb, hml, hown, ht⟩ (mt_D_flags l D h c H.size st ((p2 ^^^ p3).toInt64) (0 : Int32) (0 : Int32) zB0 zB0) (cwV 3 ht (zgV zw_1039 zw_1041 zs_66 zw_7 zw_1042) rfl rfl rfl kd_D_flags ⟨Nat.le_of_ble_eq_true rfl, Nat.le_of_ble_eq_true rfl⟩) ⟨zw_blind zw_tt, va_recv (hK.sub (tys' := [(c 21, .long), (c 22, .int), (c 23, .int), (c 24, .int), (c 25, .int), (c 26, .int), (c 27, .int), (c 28, .int)]) [0, 1, 2, 3, 4, 5, 6, 7] rfl) (hP.sub (ws' := wD h c st) [0, 1, 2, 3, 4, 5, 6, 7, 8] rfl) (ci := 6) (q0 := 0) rfl rfl, zw_go (hP.sub (ws' := wD h c st) [0, 1, 2, 3, 4, 5, 6, 7, 8] rfl) (hD.sub (ws' := wD h c st) [0, 1, 2, 3, 4, 5, 6, 7, 8] (by decide) rfl) (hK.sub (tys' := [(c 21, .long), (c 22, .int), (c 23, .int), (c 24, .int), (c 25, .int), (c 26, .int), (c 27, .int), (c 28, .int)]) [0, 1, 2, 3, 4, 5, 6, 7] rfl) (fun _ _ _ => trivial)⟩ rfl rfl hl.1 rfl (lv_room (Nat.le_of_ble_eq_true rfl)) d_D_reckons_305 ⟨Nat.le_of_ble_eq_true rfl, Nat.le_of_ble_eq_true rfl⟩) hP hD hS hA [0, 1, 2, 3, 4, 5, 6, 7, 8] [] [0, 1, 2, 3, 4, 5, 6, 7, 8] rfl rfl (by decide) (by decide) (by decide) (fun _ => rfl) (fun u_23 H locs hw hP hD hS => ?_)
      subst hw
      exact J_21 (m_flags st ((p2 ^^^ p3).toInt64) (0 : Int32) (0 : Int32)) _ _ _ ⟨by simp only [if_neg c_22], hP, hD, hS, (lv_sub hl [2, 3, 4, 5, 6, 1, 0] rfl)⟩
    obtain ⟨u_20, rfl⟩ : ∃ z, z = v9 := ⟨_, rfl⟩
    obtain ⟨eu_20, hP, hD, hS, hl⟩ := hG
    have ok_20 : okV u_20 := by rw [eu_20]; exact (okV_iteD (fun c_20 => hV) (fun c_20 => (ov_flags hV)))
    refine lv_aload_n hx hb d_D_reckons_308 rfl (lv_at hl 0 rfl) ?_
    refine lv_iload_n hx hb d_D_reckons_309 rfl (lv_at hl 2 rfl) ?_
    refine lv_aload_n hx hb d_D_reckons_310 rfl (lv_at hl 0 rfl) ?_
    refine va_get (D := D) (ci := 6) (v := .int (u_20.1 6)) (C := "WindowMachineModel") (T := T_D) (N := 31) hx hb ht zi_D hown hK hP 0 rfl rfl 14 (by decide) (ht _ zw_868) (fun _ h9 => h9) rfl d_D_reckons_311 ?_
    refine lv_lload hx hb d_D_reckons_314 (lv_at hl 6 rfl) ?_
    refine lv_l2i (v := ((p2 ^^^ p3).toInt64).toInt32) hx hb d_D_reckons_316 rfl ?_
    refine zc_v (w2 := fun u9 => wD h c u9) (va_runV (As := [.int p1, .int (u_20.1 6), .int (((p2 ^^^ p3).toInt64).toInt32)]) (rest := []) ⟨hx, hb, hml, hown, ht⟩ (mt_D_gives l D h c H.size u_20 p1 (u_20.1 6) (((p2 ^^^ p3).toInt64).toInt32) hr9 (ok_20).1) (cwV 3 ht (zgV zw_990 zw_992 zs_57 zw_7 zw_993) rfl rfl rfl kd_D_gives ⟨Nat.le_of_ble_eq_true rfl, Nat.le_of_ble_eq_true rfl⟩) ⟨zw_blind zw_tt, va_recv (hK.sub (tys' := [(c 21, .long), (c 22, .int), (c 23, .int), (c 24, .int), (c 25, .int), (c 26, .int), (c 27, .int), (c 28, .int)]) [0, 1, 2, 3, 4, 5, 6, 7] rfl) (hP.sub (ws' := wD h c u_20) [0, 1, 2, 3, 4, 5, 6, 7, 8] rfl) (ci := 6) (q0 := 0) rfl rfl, zw_go (hP.sub (ws' := wD h c u_20) [0, 1, 2, 3, 4, 5, 6, 7, 8] rfl) (hD.sub (ws' := wD h c u_20) [0, 1, 2, 3, 4, 5, 6, 7, 8] (by decide) rfl) (hK.sub (tys' := [(c 21, .long), (c 22, .int), (c 23, .int), (c 24, .int), (c 25, .int), (c 26, .int), (c 27, .int), (c 28, .int)]) [0, 1, 2, 3, 4, 5, 6, 7] rfl) (fun _ _ _ => trivial)⟩ rfl rfl hl.1 rfl (lv_room (Nat.le_of_ble_eq_true rfl)) d_D_reckons_317 ⟨Nat.le_of_ble_eq_true rfl, Nat.le_of_ble_eq_true rfl⟩) hP hD hS hA [0, 1, 2, 3, 4, 5, 6, 7, 8] [] [0, 1, 2, 3, 4, 5, 6, 7, 8] rfl rfl (by decide) (by decide) (by decide) (fun _ => rfl) (fun u_24 H locs hw hP hD hS => ?_)
    have eu_24 := hw
    have ok_24 : okV u_24 := by rw [eu_24]; exact (ov_gives ok_20)
    exact zl_v (u := u_24) hx hb hr hlocks hS hP hD (by simp only [m_reckons, ← ex_1, ← eu_20, ← eu_24]; try simp only [if_neg c_5, if_neg c_7, if_neg c_13, if_pos c_19]) d_D_reckons_320
  by_cases c_25 : (p0 &&& (15 : Int32)) = (4 : Int32)
  · refine lv_tableIn (tgt := 126) hx hb d_D_reckons_18 (by rw [c_25]; decide) (by rw [c_25]; decide) (by rw [c_25]; rfl) (by decide) ?_
    refine lv_aload_n hx hb d_D_reckons_126 rfl (lv_at hl 1 rfl) ?_
    refine lv_iload_n hx hb d_D_reckons_127 rfl (lv_at hl 3 rfl) ?_
    refine lv_iload_n hx hb d_D_reckons_128 rfl (lv_at hl 4 rfl) ?_
    refine lv_iload hx hb d_D_reckons_129 (lv_at hl 5 rfl) ?_
    refine lv_iconst (v := (0 : Int32)) hx hb d_D_reckons_131 (by decide) ?_
    refine lv_iload hx hb d_D_reckons_132 (lv_at hl 0 rfl) ?_
    refine zc_v (w2 := fun u9 => wD h c u9) (va_runV (As := [.int p1, .int p2, .int p3, .int (0 : Int32), .int x_1]) (rest := []) ⟨hx, hb, hml, hown, ht⟩ (mt_D_takes l D h c H.size st p1 p2 p3 (0 : Int32) x_1 hV hr9) (cwV 5 ht (zgV zw_1046 zw_1048 zs_67 zw_7 zw_1049) rfl rfl rfl kd_D_takes ⟨Nat.le_of_ble_eq_true rfl, Nat.le_of_ble_eq_true rfl⟩) ⟨zw_blind zw_tt, va_recv (hK.sub (tys' := [(c 21, .long), (c 22, .int), (c 23, .int), (c 24, .int), (c 25, .int), (c 26, .int), (c 27, .int), (c 28, .int)]) [0, 1, 2, 3, 4, 5, 6, 7] rfl) (hP.sub (ws' := wD h c st) [0, 1, 2, 3, 4, 5, 6, 7, 8] rfl) (ci := 6) (q0 := 0) rfl rfl, zw_go (hP.sub (ws' := wD h c st) [0, 1, 2, 3, 4, 5, 6, 7, 8] rfl) (hD.sub (ws' := wD h c st) [0, 1, 2, 3, 4, 5, 6, 7, 8] (by decide) rfl) (hK.sub (tys' := [(c 21, .long), (c 22, .int), (c 23, .int), (c 24, .int), (c 25, .int), (c 26, .int), (c 27, .int), (c 28, .int)]) [0, 1, 2, 3, 4, 5, 6, 7] rfl) (fun _ _ _ => trivial)⟩ rfl rfl hl.1 rfl (lv_room (Nat.le_of_ble_eq_true rfl)) d_D_reckons_134 ⟨Nat.le_of_ble_eq_true rfl, Nat.le_of_ble_eq_true rfl⟩) hP hD hS hA [0, 1, 2, 3, 4, 5, 6, 7, 8] [] [0, 1, 2, 3, 4, 5, 6, 7, 8] rfl rfl (by decide) (by decide) (by decide) (fun _ => rfl) (fun u_26 H locs hw hP hD hS => ?_)
    have eu_26 := hw
    have ok_26 : okV u_26 := by rw [eu_26]; exact (ov_takes hV)
    exact zl_v (u := u_26) hx hb hr hlocks hS hP hD (by simp only [m_reckons, ← ex_1, ← eu_26]; try simp only [if_neg c_5, if_neg c_7, if_neg c_13, if_neg c_19, if_pos c_25]) d_D_reckons_137
  by_cases c_27 : (p0 &&& (15 : Int32)) = (5 : Int32)
  · refine lv_tableIn (tgt := 210) hx hb d_D_reckons_18 (by rw [c_27]; decide) (by rw [c_27]; decide) (by rw [c_27]; rfl) (by decide) ?_
    refine lv_iload_n hx hb d_D_reckons_210 rfl (lv_at hl 4 rfl) ?_
    refine lv_iload hx hb d_D_reckons_211 (lv_at hl 5 rfl) ?_
    refine lv_iconst (v := (-1 : Int32)) hx hb d_D_reckons_213 (by decide) ?_
    refine lv_ixor hx hb d_D_reckons_214 ?_
    refine lv_iand hx hb d_D_reckons_215 ?_
    refine lv_i2l (v := (p2 &&& (p3 ^^^ (-1 : Int32))).toInt64) hx hb d_D_reckons_216 rfl ?_
    refine lv_topl (fun x_28 ex_28 => ?_)
    refine lv_lstore (lv' := [(6, .long x_28), (5, .int x_1), (0, .ref (h 20)), (1, .int p0), (2, .int p1), (3, .int p2), (4, .int p3)]) hx hb d_D_reckons_217 hl (by decide) rfl (fun ls hl => ?_)
    refine lv_goto (tgt := 295) hx hb d_D_reckons_219 (by decide) ?_
    refine lv_iload hx hb d_D_reckons_295 (lv_at hl 1 rfl) ?_
    refine zcut (X := SD) (G := fun v9 H locs ls => v9 = (if x_1 = (0 : Int32) then st else m_flags st x_28 (0 : Int32) (0 : Int32)) ∧ va_P D vwCl (wD h c v9) H ∧ va_D A (wD h c v9) ∧ va_S A s.heap H locs ∧ lv_has ls 8 [(0, .ref (h 20)), (1, .int p0), (2, .int p1), (3, .int p2), (4, .int p3), (5, .int x_1), (6, .long x_28)]) (fr := fun v9 ls => F0 m 308 ls []) (fun J_30 => ?_) (fun v9 H locs ls hG => ?_)
    · refine lv_if_eq (tgt := 308) hx hb d_D_reckons_297 (by decide) (fun c_31 => ?_) (fun c_31 => ?_)
      · exact J_30 st _ _ _ ⟨by simp only [if_pos c_31], hP, hD, hS, (lv_sub hl [2, 3, 4, 5, 6, 1, 0] rfl)⟩
      refine lv_aload_n hx hb d_D_reckons_300 rfl (lv_at hl 2 rfl) ?_
      refine lv_lload hx hb d_D_reckons_301 (lv_at hl 0 rfl) ?_
      refine lv_iconst (v := (0 : Int32)) hx hb d_D_reckons_303 (by decide) ?_
      refine lv_iconst (v := (0 : Int32)) hx hb d_D_reckons_304 (by decide) ?_
      refine zc_v (w2 := fun u9 => wD h c u9) (va_runV (As := [.long x_28, .int (0 : Int32), .int (0 : Int32)]) (rest := []) ⟨hx, hb, hml, hown, ht⟩ (mt_D_flags l D h c H.size st x_28 (0 : Int32) (0 : Int32) zB0 zB0) (cwV 3 ht (zgV zw_1039 zw_1041 zs_66 zw_7 zw_1042) rfl rfl rfl kd_D_flags ⟨Nat.le_of_ble_eq_true rfl, Nat.le_of_ble_eq_true rfl⟩) ⟨zw_blind zw_tt, va_recv (hK.sub (tys' := [(c 21, .long), (c 22, .int), (c 23, .int), (c 24, .int), (c 25, .int), (c 26, .int), (c 27, .int), (c 28, .int)]) [0, 1, 2, 3, 4, 5, 6, 7] rfl) (hP.sub (ws' := wD h c st) [0, 1, 2, 3, 4, 5, 6, 7, 8] rfl) (ci := 6) (q0 := 0) rfl rfl, zw_go (hP.sub (ws' := wD h c st) [0, 1, 2, 3, 4, 5, 6, 7, 8] rfl) (hD.sub (ws' := wD h c st) [0, 1, 2, 3, 4, 5, 6, 7, 8] (by decide) rfl) (hK.sub (tys' := [(c 21, .long), (c 22, .int), (c 23, .int), (c 24, .int), (c 25, .int), (c 26, .int), (c 27, .int), (c 28, .int)]) [0, 1, 2, 3, 4, 5, 6, 7] rfl) (fun _ _ _ => trivial)⟩ rfl rfl hl.1 rfl (lv_room (Nat.le_of_ble_eq_true rfl)) d_D_reckons_305 ⟨Nat.le_of_ble_eq_true rfl, Nat.le_of_ble_eq_true rfl⟩) hP hD hS hA [0, 1, 2, 3, 4, 5, 6, 7, 8] [] [0, 1, 2, 3, 4, 5, 6, 7, 8] rfl rfl (by decide) (by decide) (by decide) (fun _ => rfl) (fun u_32 H locs hw hP hD hS => ?_)
      subst hw
      exact J_30 (m_flags st x_28 (0 : Int32) (0 : Int32)) _ _ _ ⟨by simp only [if_neg c_31], hP, hD, hS, (lv_sub hl [2, 3, 4, 5, 6, 1, 0] rfl)⟩
    obtain ⟨u_29, rfl⟩ : ∃ z, z = v9 := ⟨_, rfl⟩
    obtain ⟨eu_29, hP, hD, hS, hl⟩ := hG
    have ok_29 : okV u_29 := by rw [eu_29]; exact (okV_iteD (fun c_29 => hV) (fun c_29 => (ov_flags hV)))
    refine lv_aload_n hx hb d_D_reckons_308 rfl (lv_at hl 0 rfl) ?_
    refine lv_iload_n hx hb d_D_reckons_309 rfl (lv_at hl 2 rfl) ?_
    refine lv_aload_n hx hb d_D_reckons_310 rfl (lv_at hl 0 rfl) ?_
    refine va_get (D := D) (ci := 6) (v := .int (u_29.1 6)) (C := "WindowMachineModel") (T := T_D) (N := 31) hx hb ht zi_D hown hK hP 0 rfl rfl 14 (by decide) (ht _ zw_868) (fun _ h9 => h9) rfl d_D_reckons_311 ?_
    refine lv_lload hx hb d_D_reckons_314 (lv_at hl 6 rfl) ?_
    refine lv_l2i (v := x_28.toInt32) hx hb d_D_reckons_316 rfl ?_
    refine zc_v (w2 := fun u9 => wD h c u9) (va_runV (As := [.int p1, .int (u_29.1 6), .int x_28.toInt32]) (rest := []) ⟨hx, hb, hml, hown, ht⟩ (mt_D_gives l D h c H.size u_29 p1 (u_29.1 6) x_28.toInt32 hr9 (ok_29).1) (cwV 3 ht (zgV zw_990 zw_992 zs_57 zw_7 zw_993) rfl rfl rfl kd_D_gives ⟨Nat.le_of_ble_eq_true rfl, Nat.le_of_ble_eq_true rfl⟩) ⟨zw_blind zw_tt, va_recv (hK.sub (tys' := [(c 21, .long), (c 22, .int), (c 23, .int), (c 24, .int), (c 25, .int), (c 26, .int), (c 27, .int), (c 28, .int)]) [0, 1, 2, 3, 4, 5, 6, 7] rfl) (hP.sub (ws' := wD h c u_29) [0, 1, 2, 3, 4, 5, 6, 7, 8] rfl) (ci := 6) (q0 := 0) rfl rfl, zw_go (hP.sub (ws' := wD h c u_29) [0, 1, 2, 3, 4, 5, 6, 7, 8] rfl) (hD.sub (ws' := wD h c u_29) [0, 1, 2, 3, 4, 5, 6, 7, 8] (by decide) rfl) (hK.sub (tys' := [(c 21, .long), (c 22, .int), (c 23, .int), (c 24, .int), (c 25, .int), (c 26, .int), (c 27, .int), (c 28, .int)]) [0, 1, 2, 3, 4, 5, 6, 7] rfl) (fun _ _ _ => trivial)⟩ rfl rfl hl.1 rfl (lv_room (Nat.le_of_ble_eq_true rfl)) d_D_reckons_317 ⟨Nat.le_of_ble_eq_true rfl, Nat.le_of_ble_eq_true rfl⟩) hP hD hS hA [0, 1, 2, 3, 4, 5, 6, 7, 8] [] [0, 1, 2, 3, 4, 5, 6, 7, 8] rfl rfl (by decide) (by decide) (by decide) (fun _ => rfl) (fun u_33 H locs hw hP hD hS => ?_)
    have eu_33 := hw
    have ok_33 : okV u_33 := by rw [eu_33]; exact (ov_gives ok_29)
    exact zl_v (u := u_33) hx hb hr hlocks hS hP hD (by simp only [m_reckons, ← ex_1, ← ex_28, ← eu_29, ← eu_33]; try simp only [if_neg c_5, if_neg c_7, if_neg c_13, if_neg c_19, if_neg c_25, if_pos c_27]) d_D_reckons_320
  by_cases c_34 : (p0 &&& (15 : Int32)) = (6 : Int32)
  · refine lv_tableIn (tgt := 222) hx hb d_D_reckons_18 (by rw [c_34]; decide) (by rw [c_34]; decide) (by rw [c_34]; rfl) (by decide) ?_
    refine lv_iload_n hx hb d_D_reckons_222 rfl (lv_at hl 4 rfl) ?_
    refine lv_iload hx hb d_D_reckons_223 (lv_at hl 5 rfl) ?_
    refine lv_iconst (v := (-1 : Int32)) hx hb d_D_reckons_225 (by decide) ?_
    refine lv_ixor hx hb d_D_reckons_226 ?_
    refine lv_ior hx hb d_D_reckons_227 ?_
    refine lv_i2l (v := (p2 ||| (p3 ^^^ (-1 : Int32))).toInt64) hx hb d_D_reckons_228 rfl ?_
    refine lv_topl (fun x_35 ex_35 => ?_)
    refine lv_lstore (lv' := [(6, .long x_35), (5, .int x_1), (0, .ref (h 20)), (1, .int p0), (2, .int p1), (3, .int p2), (4, .int p3)]) hx hb d_D_reckons_229 hl (by decide) rfl (fun ls hl => ?_)
    refine lv_goto (tgt := 295) hx hb d_D_reckons_231 (by decide) ?_
    refine lv_iload hx hb d_D_reckons_295 (lv_at hl 1 rfl) ?_
    refine zcut (X := SD) (G := fun v9 H locs ls => v9 = (if x_1 = (0 : Int32) then st else m_flags st x_35 (0 : Int32) (0 : Int32)) ∧ va_P D vwCl (wD h c v9) H ∧ va_D A (wD h c v9) ∧ va_S A s.heap H locs ∧ lv_has ls 8 [(0, .ref (h 20)), (1, .int p0), (2, .int p1), (3, .int p2), (4, .int p3), (5, .int x_1), (6, .long x_35)]) (fr := fun v9 ls => F0 m 308 ls []) (fun J_37 => ?_) (fun v9 H locs ls hG => ?_)
    · refine lv_if_eq (tgt := 308) hx hb d_D_reckons_297 (by decide) (fun c_38 => ?_) (fun c_38 => ?_)
      · exact J_37 st _ _ _ ⟨by simp only [if_pos c_38], hP, hD, hS, (lv_sub hl [2, 3, 4, 5, 6, 1, 0] rfl)⟩
      refine lv_aload_n hx hb d_D_reckons_300 rfl (lv_at hl 2 rfl) ?_
      refine lv_lload hx hb d_D_reckons_301 (lv_at hl 0 rfl) ?_
      refine lv_iconst (v := (0 : Int32)) hx hb d_D_reckons_303 (by decide) ?_
      refine lv_iconst (v := (0 : Int32)) hx hb d_D_reckons_304 (by decide) ?_
      refine zc_v (w2 := fun u9 => wD h c u9) (va_runV (As := [.long x_35, .int (0 : Int32), .int (0 : Int32)]) (rest := []) ⟨hx, hb, hml, hown, ht⟩ (mt_D_flags l D h c H.size st x_35 (0 : Int32) (0 : Int32) zB0 zB0) (cwV 3 ht (zgV zw_1039 zw_1041 zs_66 zw_7 zw_1042) rfl rfl rfl kd_D_flags ⟨Nat.le_of_ble_eq_true rfl, Nat.le_of_ble_eq_true rfl⟩) ⟨zw_blind zw_tt, va_recv (hK.sub (tys' := [(c 21, .long), (c 22, .int), (c 23, .int), (c 24, .int), (c 25, .int), (c 26, .int), (c 27, .int), (c 28, .int)]) [0, 1, 2, 3, 4, 5, 6, 7] rfl) (hP.sub (ws' := wD h c st) [0, 1, 2, 3, 4, 5, 6, 7, 8] rfl) (ci := 6) (q0 := 0) rfl rfl, zw_go (hP.sub (ws' := wD h c st) [0, 1, 2, 3, 4, 5, 6, 7, 8] rfl) (hD.sub (ws' := wD h c st) [0, 1, 2, 3, 4, 5, 6, 7, 8] (by decide) rfl) (hK.sub (tys' := [(c 21, .long), (c 22, .int), (c 23, .int), (c 24, .int), (c 25, .int), (c 26, .int), (c 27, .int), (c 28, .int)]) [0, 1, 2, 3, 4, 5, 6, 7] rfl) (fun _ _ _ => trivial)⟩ rfl rfl hl.1 rfl (lv_room (Nat.le_of_ble_eq_true rfl)) d_D_reckons_305 ⟨Nat.le_of_ble_eq_true rfl, Nat.le_of_ble_eq_true rfl⟩) hP hD hS hA [0, 1, 2, 3, 4, 5, 6, 7, 8] [] [0, 1, 2, 3, 4, 5, 6, 7, 8] rfl rfl (by decide) (by decide) (by decide) (fun _ => rfl) (fun u_39 H locs hw hP hD hS => ?_)
      subst hw
      exact J_37 (m_flags st x_35 (0 : Int32) (0 : Int32)) _ _ _ ⟨by simp only [if_neg c_38], hP, hD, hS, (lv_sub hl [2, 3, 4, 5, 6, 1, 0] rfl)⟩
    obtain ⟨u_36, rfl⟩ : ∃ z, z = v9 := ⟨_, rfl⟩
    obtain ⟨eu_36, hP, hD, hS, hl⟩ := hG
    have ok_36 : okV u_36 := by rw [eu_36]; exact (okV_iteD (fun c_36 => hV) (fun c_36 => (ov_flags hV)))
    refine lv_aload_n hx hb d_D_reckons_308 rfl (lv_at hl 0 rfl) ?_
    refine lv_iload_n hx hb d_D_reckons_309 rfl (lv_at hl 2 rfl) ?_
    refine lv_aload_n hx hb d_D_reckons_310 rfl (lv_at hl 0 rfl) ?_
    refine va_get (D := D) (ci := 6) (v := .int (u_36.1 6)) (C := "WindowMachineModel") (T := T_D) (N := 31) hx hb ht zi_D hown hK hP 0 rfl rfl 14 (by decide) (ht _ zw_868) (fun _ h9 => h9) rfl d_D_reckons_311 ?_
    refine lv_lload hx hb d_D_reckons_314 (lv_at hl 6 rfl) ?_
    refine lv_l2i (v := x_35.toInt32) hx hb d_D_reckons_316 rfl ?_
    refine zc_v (w2 := fun u9 => wD h c u9) (va_runV (As := [.int p1, .int (u_36.1 6), .int x_35.toInt32]) (rest := []) ⟨hx, hb, hml, hown, ht⟩ (mt_D_gives l D h c H.size u_36 p1 (u_36.1 6) x_35.toInt32 hr9 (ok_36).1) (cwV 3 ht (zgV zw_990 zw_992 zs_57 zw_7 zw_993) rfl rfl rfl kd_D_gives ⟨Nat.le_of_ble_eq_true rfl, Nat.le_of_ble_eq_true rfl⟩) ⟨zw_blind zw_tt, va_recv (hK.sub (tys' := [(c 21, .long), (c 22, .int), (c 23, .int), (c 24, .int), (c 25, .int), (c 26, .int), (c 27, .int), (c 28, .int)]) [0, 1, 2, 3, 4, 5, 6, 7] rfl) (hP.sub (ws' := wD h c u_36) [0, 1, 2, 3, 4, 5, 6, 7, 8] rfl) (ci := 6) (q0 := 0) rfl rfl, zw_go (hP.sub (ws' := wD h c u_36) [0, 1, 2, 3, 4, 5, 6, 7, 8] rfl) (hD.sub (ws' := wD h c u_36) [0, 1, 2, 3, 4, 5, 6, 7, 8] (by decide) rfl) (hK.sub (tys' := [(c 21, .long), (c 22, .int), (c 23, .int), (c 24, .int), (c 25, .int), (c 26, .int), (c 27, .int), (c 28, .int)]) [0, 1, 2, 3, 4, 5, 6, 7] rfl) (fun _ _ _ => trivial)⟩ rfl rfl hl.1 rfl (lv_room (Nat.le_of_ble_eq_true rfl)) d_D_reckons_317 ⟨Nat.le_of_ble_eq_true rfl, Nat.le_of_ble_eq_true rfl⟩) hP hD hS hA [0, 1, 2, 3, 4, 5, 6, 7, 8] [] [0, 1, 2, 3, 4, 5, 6, 7, 8] rfl rfl (by decide) (by decide) (by decide) (fun _ => rfl) (fun u_40 H locs hw hP hD hS => ?_)
    have eu_40 := hw
    have ok_40 : okV u_40 := by rw [eu_40]; exact (ov_gives ok_36)
    exact zl_v (u := u_40) hx hb hr hlocks hS hP hD (by simp only [m_reckons, ← ex_1, ← ex_35, ← eu_36, ← eu_40]; try simp only [if_neg c_5, if_neg c_7, if_neg c_13, if_neg c_19, if_neg c_25, if_neg c_27, if_pos c_34]) d_D_reckons_320
  by_cases c_41 : (p0 &&& (15 : Int32)) = (7 : Int32)
  · refine lv_tableIn (tgt := 234) hx hb d_D_reckons_18 (by rw [c_41]; decide) (by rw [c_41]; decide) (by rw [c_41]; rfl) (by decide) ?_
    refine lv_iload_n hx hb d_D_reckons_234 rfl (lv_at hl 4 rfl) ?_
    refine lv_iload hx hb d_D_reckons_235 (lv_at hl 5 rfl) ?_
    refine lv_iconst (v := (-1 : Int32)) hx hb d_D_reckons_237 (by decide) ?_
    refine lv_ixor hx hb d_D_reckons_238 ?_
    refine lv_ixor hx hb d_D_reckons_239 ?_
    refine lv_i2l (v := (p2 ^^^ (p3 ^^^ (-1 : Int32))).toInt64) hx hb d_D_reckons_240 rfl ?_
    refine lv_topl (fun x_42 ex_42 => ?_)
    refine lv_lstore (lv' := [(6, .long x_42), (5, .int x_1), (0, .ref (h 20)), (1, .int p0), (2, .int p1), (3, .int p2), (4, .int p3)]) hx hb d_D_reckons_241 hl (by decide) rfl (fun ls hl => ?_)
    refine lv_goto (tgt := 295) hx hb d_D_reckons_243 (by decide) ?_
    refine lv_iload hx hb d_D_reckons_295 (lv_at hl 1 rfl) ?_
    refine zcut (X := SD) (G := fun v9 H locs ls => v9 = (if x_1 = (0 : Int32) then st else m_flags st x_42 (0 : Int32) (0 : Int32)) ∧ va_P D vwCl (wD h c v9) H ∧ va_D A (wD h c v9) ∧ va_S A s.heap H locs ∧ lv_has ls 8 [(0, .ref (h 20)), (1, .int p0), (2, .int p1), (3, .int p2), (4, .int p3), (5, .int x_1), (6, .long x_42)]) (fr := fun v9 ls => F0 m 308 ls []) (fun J_44 => ?_) (fun v9 H locs ls hG => ?_)
    · refine lv_if_eq (tgt := 308) hx hb d_D_reckons_297 (by decide) (fun c_45 => ?_) (fun c_45 => ?_)
      · exact J_44 st _ _ _ ⟨by simp only [if_pos c_45], hP, hD, hS, (lv_sub hl [2, 3, 4, 5, 6, 1, 0] rfl)⟩
      refine lv_aload_n hx hb d_D_reckons_300 rfl (lv_at hl 2 rfl) ?_
      refine lv_lload hx hb d_D_reckons_301 (lv_at hl 0 rfl) ?_
      refine lv_iconst (v := (0 : Int32)) hx hb d_D_reckons_303 (by decide) ?_
      refine lv_iconst (v := (0 : Int32)) hx hb d_D_reckons_304 (by decide) ?_
      refine zc_v (w2 := fun u9 => wD h c u9) (va_runV (As := [.long x_42, .int (0 : Int32), .int (0 : Int32)]) (rest := []) ⟨hx, hb, hml, hown, ht⟩ (mt_D_flags l D h c H.size st x_42 (0 : Int32) (0 : Int32) zB0 zB0) (cwV 3 ht (zgV zw_1039 zw_1041 zs_66 zw_7 zw_1042) rfl rfl rfl kd_D_flags ⟨Nat.le_of_ble_eq_true rfl, Nat.le_of_ble_eq_true rfl⟩) ⟨zw_blind zw_tt, va_recv (hK.sub (tys' := [(c 21, .long), (c 22, .int), (c 23, .int), (c 24, .int), (c 25, .int), (c 26, .int), (c 27, .int), (c 28, .int)]) [0, 1, 2, 3, 4, 5, 6, 7] rfl) (hP.sub (ws' := wD h c st) [0, 1, 2, 3, 4, 5, 6, 7, 8] rfl) (ci := 6) (q0 := 0) rfl rfl, zw_go (hP.sub (ws' := wD h c st) [0, 1, 2, 3, 4, 5, 6, 7, 8] rfl) (hD.sub (ws' := wD h c st) [0, 1, 2, 3, 4, 5, 6, 7, 8] (by decide) rfl) (hK.sub (tys' := [(c 21, .long), (c 22, .int), (c 23, .int), (c 24, .int), (c 25, .int), (c 26, .int), (c 27, .int), (c 28, .int)]) [0, 1, 2, 3, 4, 5, 6, 7] rfl) (fun _ _ _ => trivial)⟩ rfl rfl hl.1 rfl (lv_room (Nat.le_of_ble_eq_true rfl)) d_D_reckons_305 ⟨Nat.le_of_ble_eq_true rfl, Nat.le_of_ble_eq_true rfl⟩) hP hD hS hA [0, 1, 2, 3, 4, 5, 6, 7, 8] [] [0, 1, 2, 3, 4, 5, 6, 7, 8] rfl rfl (by decide) (by decide) (by decide) (fun _ => rfl) (fun u_46 H locs hw hP hD hS => ?_)
      subst hw
      exact J_44 (m_flags st x_42 (0 : Int32) (0 : Int32)) _ _ _ ⟨by simp only [if_neg c_45], hP, hD, hS, (lv_sub hl [2, 3, 4, 5, 6, 1, 0] rfl)⟩
    obtain ⟨u_43, rfl⟩ : ∃ z, z = v9 := ⟨_, rfl⟩
    obtain ⟨eu_43, hP, hD, hS, hl⟩ := hG
    have ok_43 : okV u_43 := by rw [eu_43]; exact (okV_iteD (fun c_43 => hV) (fun c_43 => (ov_flags hV)))
    refine lv_aload_n hx hb d_D_reckons_308 rfl (lv_at hl 0 rfl) ?_
    refine lv_iload_n hx hb d_D_reckons_309 rfl (lv_at hl 2 rfl) ?_
    refine lv_aload_n hx hb d_D_reckons_310 rfl (lv_at hl 0 rfl) ?_
    refine va_get (D := D) (ci := 6) (v := .int (u_43.1 6)) (C := "WindowMachineModel") (T := T_D) (N := 31) hx hb ht zi_D hown hK hP 0 rfl rfl 14 (by decide) (ht _ zw_868) (fun _ h9 => h9) rfl d_D_reckons_311 ?_
    refine lv_lload hx hb d_D_reckons_314 (lv_at hl 6 rfl) ?_
    refine lv_l2i (v := x_42.toInt32) hx hb d_D_reckons_316 rfl ?_
    refine zc_v (w2 := fun u9 => wD h c u9) (va_runV (As := [.int p1, .int (u_43.1 6), .int x_42.toInt32]) (rest := []) ⟨hx, hb, hml, hown, ht⟩ (mt_D_gives l D h c H.size u_43 p1 (u_43.1 6) x_42.toInt32 hr9 (ok_43).1) (cwV 3 ht (zgV zw_990 zw_992 zs_57 zw_7 zw_993) rfl rfl rfl kd_D_gives ⟨Nat.le_of_ble_eq_true rfl, Nat.le_of_ble_eq_true rfl⟩) ⟨zw_blind zw_tt, va_recv (hK.sub (tys' := [(c 21, .long), (c 22, .int), (c 23, .int), (c 24, .int), (c 25, .int), (c 26, .int), (c 27, .int), (c 28, .int)]) [0, 1, 2, 3, 4, 5, 6, 7] rfl) (hP.sub (ws' := wD h c u_43) [0, 1, 2, 3, 4, 5, 6, 7, 8] rfl) (ci := 6) (q0 := 0) rfl rfl, zw_go (hP.sub (ws' := wD h c u_43) [0, 1, 2, 3, 4, 5, 6, 7, 8] rfl) (hD.sub (ws' := wD h c u_43) [0, 1, 2, 3, 4, 5, 6, 7, 8] (by decide) rfl) (hK.sub (tys' := [(c 21, .long), (c 22, .int), (c 23, .int), (c 24, .int), (c 25, .int), (c 26, .int), (c 27, .int), (c 28, .int)]) [0, 1, 2, 3, 4, 5, 6, 7] rfl) (fun _ _ _ => trivial)⟩ rfl rfl hl.1 rfl (lv_room (Nat.le_of_ble_eq_true rfl)) d_D_reckons_317 ⟨Nat.le_of_ble_eq_true rfl, Nat.le_of_ble_eq_true rfl⟩) hP hD hS hA [0, 1, 2, 3, 4, 5, 6, 7, 8] [] [0, 1, 2, 3, 4, 5, 6, 7, 8] rfl rfl (by decide) (by decide) (by decide) (fun _ => rfl) (fun u_47 H locs hw hP hD hS => ?_)
    have eu_47 := hw
    have ok_47 : okV u_47 := by rw [eu_47]; exact (ov_gives ok_43)
    exact zl_v (u := u_47) hx hb hr hlocks hS hP hD (by simp only [m_reckons, ← ex_1, ← ex_42, ← eu_43, ← eu_47]; try simp only [if_neg c_5, if_neg c_7, if_neg c_13, if_neg c_19, if_neg c_25, if_neg c_27, if_neg c_34, if_pos c_41]) d_D_reckons_320
  by_cases c_48 : (p0 &&& (15 : Int32)) = (8 : Int32)
  · refine lv_tableIn (tgt := 108) hx hb d_D_reckons_18 (by rw [c_48]; decide) (by rw [c_48]; decide) (by rw [c_48]; rfl) (by decide) ?_
    refine lv_aload_n hx hb d_D_reckons_108 rfl (lv_at hl 1 rfl) ?_
    refine lv_iload_n hx hb d_D_reckons_109 rfl (lv_at hl 3 rfl) ?_
    refine lv_iload_n hx hb d_D_reckons_110 rfl (lv_at hl 4 rfl) ?_
    refine lv_iload hx hb d_D_reckons_111 (lv_at hl 5 rfl) ?_
    refine lv_aload_n hx hb d_D_reckons_113 rfl (lv_at hl 1 rfl) ?_
    refine va_get (D := D) (ci := 6) (v := .int (st.1 16)) (C := "WindowMachineModel") (T := T_D) (N := 31) hx hb ht zi_D hown hK hP 0 rfl rfl 24 (by decide) (ht _ zw_878) (fun _ h9 => h9) rfl d_D_reckons_114 ?_
    refine zc_i (w2 := fun _ => wD h c st) (va_runS (As := [.int (st.1 16)]) (rest := [.int p3, .int p2, .int p1, .ref (h 20)]) ⟨hx, hb, hml, hown, ht⟩ (mt_D_bit l D H.size (st.1 16)) (cwS 1 ht (zgS zw_1043 zw_1044 zw_7 zw_1045) rfl rfl rfl kd_D_bit ⟨Nat.le_of_ble_eq_true rfl, Nat.le_of_ble_eq_true rfl⟩) ⟨zw_blind zw_tt, zw_go (hP.sub (ws' := []) [] rfl) (hD.sub (ws' := []) [] (by decide) rfl) (hK.sub (tys' := []) [] rfl) (fun _ _ _ => trivial)⟩ rfl rfl hl.1 rfl (lv_room (Nat.le_of_ble_eq_true rfl)) d_D_reckons_117 ⟨Nat.le_of_ble_eq_true rfl, Nat.le_of_ble_eq_true rfl⟩) hP hD hS hA [] [0, 1, 2, 3, 4, 5, 6, 7, 8] [0, 1, 2, 3, 4, 5, 6, 7, 8] rfl rfl (by decide) (by decide) (by decide) (fun _ => rfl) (fun r_49 _ H locs hw hP hD hS => ?_)
    have er_49 := hw
    refine lv_iload hx hb d_D_reckons_120 (lv_at hl 0 rfl) ?_
    refine zc_v (w2 := fun u9 => wD h c u9) (va_runV (As := [.int p1, .int p2, .int p3, .int r_49, .int x_1]) (rest := []) ⟨hx, hb, hml, hown, ht⟩ (mt_D_adds l D h c H.size st p1 p2 p3 r_49 x_1 hV hr9) (cwV 5 ht (zgV zw_1031 zw_1033 zs_65 zw_7 zw_1034) rfl rfl rfl kd_D_adds ⟨Nat.le_of_ble_eq_true rfl, Nat.le_of_ble_eq_true rfl⟩) ⟨zw_blind zw_tt, va_recv (hK.sub (tys' := [(c 21, .long), (c 22, .int), (c 23, .int), (c 24, .int), (c 25, .int), (c 26, .int), (c 27, .int), (c 28, .int)]) [0, 1, 2, 3, 4, 5, 6, 7] rfl) (hP.sub (ws' := wD h c st) [0, 1, 2, 3, 4, 5, 6, 7, 8] rfl) (ci := 6) (q0 := 0) rfl rfl, zw_go (hP.sub (ws' := wD h c st) [0, 1, 2, 3, 4, 5, 6, 7, 8] rfl) (hD.sub (ws' := wD h c st) [0, 1, 2, 3, 4, 5, 6, 7, 8] (by decide) rfl) (hK.sub (tys' := [(c 21, .long), (c 22, .int), (c 23, .int), (c 24, .int), (c 25, .int), (c 26, .int), (c 27, .int), (c 28, .int)]) [0, 1, 2, 3, 4, 5, 6, 7] rfl) (fun _ _ _ => trivial)⟩ rfl rfl hl.1 rfl (lv_room (Nat.le_of_ble_eq_true rfl)) d_D_reckons_122 ⟨Nat.le_of_ble_eq_true rfl, Nat.le_of_ble_eq_true rfl⟩) hP hD hS hA [0, 1, 2, 3, 4, 5, 6, 7, 8] [] [0, 1, 2, 3, 4, 5, 6, 7, 8] rfl rfl (by decide) (by decide) (by decide) (fun _ => rfl) (fun u_50 H locs hw hP hD hS => ?_)
    have eu_50 := hw
    have ok_50 : okV u_50 := by rw [eu_50]; exact (ov_adds hV)
    exact zl_v (u := u_50) hx hb hr hlocks hS hP hD (by simp only [m_reckons, ← ex_1, ← er_49, ← eu_50]; try simp only [if_neg c_5, if_neg c_7, if_neg c_13, if_neg c_19, if_neg c_25, if_neg c_27, if_neg c_34, if_neg c_41, if_pos c_48]) d_D_reckons_125
  by_cases c_51 : (p0 &&& (15 : Int32)) = (10 : Int32)
  · refine lv_tableIn (tgt := 246) hx hb d_D_reckons_18 (by rw [c_51]; decide) (by rw [c_51]; decide) (by rw [c_51]; rfl) (by decide) ?_
    refine lv_iload_n hx hb d_D_reckons_246 rfl (lv_at hl 2 rfl) ?_
    refine lv_bipush (v := (15 : Int32)) hx hb d_D_reckons_247 (by decide) ?_
    refine lv_iand hx hb d_D_reckons_249 ?_
    refine lv_bipush (v := (10 : Int32)) hx hb d_D_reckons_250 (by decide) ?_
    refine zcut (X := Int64) (G := fun v9 H locs ls => v9 = (if (p0 &&& (15 : Int32)) = (10 : Int32) then (m_bare p2) * (m_bare p3) else p2.toInt64 * p3.toInt64) ∧ va_P D vwCl (wD h c st) H ∧ va_D A (wD h c st) ∧ va_S A s.heap H locs ∧ lv_has ls 8 [(0, .ref (h 20)), (1, .int p0), (2, .int p1), (3, .int p2), (4, .int p3), (5, .int x_1)]) (fr := fun v9 ls => F0 m 274 ls [.long v9]) (fun J_53 => ?_) (fun v9 H locs ls hG => ?_)
    · refine lv_icmp_ne (tgt := 268) hx hb d_D_reckons_252 (by decide) (fun c_54 => ?_) (fun c_54 => ?_)
      · refine lv_iload_n hx hb d_D_reckons_268 rfl (lv_at hl 4 rfl) ?_
        refine lv_i2l (v := p2.toInt64) hx hb d_D_reckons_269 rfl ?_
        refine lv_iload hx hb d_D_reckons_270 (lv_at hl 5 rfl) ?_
        refine lv_i2l (v := p3.toInt64) hx hb d_D_reckons_272 rfl ?_
        refine lv_lmul hx hb d_D_reckons_273 ?_
        exact J_53 (p2.toInt64 * p3.toInt64) _ _ _ ⟨by simp only [if_neg c_54], hP, hD, hS, (lv_sub hl [1, 2, 3, 4, 5, 0] rfl)⟩
      refine lv_iload_n hx hb d_D_reckons_255 rfl (lv_at hl 4 rfl) ?_
      refine zc_l (w2 := fun _ => wD h c st) (va_runS (As := [.int p2]) (rest := []) ⟨hx, hb, hml, hown, ht⟩ (mt_D_bare l D H.size p2) (cwS 1 ht (zgS zw_1035 zw_1036 zw_7 zw_1037) rfl rfl rfl kd_D_bare ⟨Nat.le_of_ble_eq_true rfl, Nat.le_of_ble_eq_true rfl⟩) ⟨zw_blind zw_tt, zw_go (hP.sub (ws' := []) [] rfl) (hD.sub (ws' := []) [] (by decide) rfl) (hK.sub (tys' := []) [] rfl) (fun _ _ _ => trivial)⟩ rfl rfl hl.1 rfl (lv_room (Nat.le_of_ble_eq_true rfl)) d_D_reckons_256 ⟨Nat.le_of_ble_eq_true rfl, Nat.le_of_ble_eq_true rfl⟩) hP hD hS hA [] [0, 1, 2, 3, 4, 5, 6, 7, 8] [0, 1, 2, 3, 4, 5, 6, 7, 8] rfl rfl (by decide) (by decide) (by decide) (fun _ => rfl) (fun r_55 _ H locs hw hP hD hS => ?_)
      subst hw
      refine lv_iload hx hb d_D_reckons_259 (lv_at hl 5 rfl) ?_
      refine zc_l (w2 := fun _ => wD h c st) (va_runS (As := [.int p3]) (rest := [.long (m_bare p2)]) ⟨hx, hb, hml, hown, ht⟩ (mt_D_bare l D H.size p3) (cwS 1 ht (zgS zw_1035 zw_1036 zw_7 zw_1037) rfl rfl rfl kd_D_bare ⟨Nat.le_of_ble_eq_true rfl, Nat.le_of_ble_eq_true rfl⟩) ⟨zw_blind zw_tt, zw_go (hP.sub (ws' := []) [] rfl) (hD.sub (ws' := []) [] (by decide) rfl) (hK.sub (tys' := []) [] rfl) (fun _ _ _ => trivial)⟩ rfl rfl hl.1 rfl (lv_room (Nat.le_of_ble_eq_true rfl)) d_D_reckons_261 ⟨Nat.le_of_ble_eq_true rfl, Nat.le_of_ble_eq_true rfl⟩) hP hD hS hA [] [0, 1, 2, 3, 4, 5, 6, 7, 8] [0, 1, 2, 3, 4, 5, 6, 7, 8] rfl rfl (by decide) (by decide) (by decide) (fun _ => rfl) (fun r_56 _ H locs hw hP hD hS => ?_)
      subst hw
      refine lv_lmul hx hb d_D_reckons_264 ?_
      refine lv_goto (tgt := 274) hx hb d_D_reckons_265 (by decide) ?_
      exact J_53 ((m_bare p2) * (m_bare p3)) _ _ _ ⟨by simp only [if_pos c_54], hP, hD, hS, (lv_sub hl [1, 2, 3, 4, 5, 0] rfl)⟩
    obtain ⟨x_52, rfl⟩ : ∃ z, z = v9 := ⟨_, rfl⟩
    obtain ⟨ex_52, hP, hD, hS, hl⟩ := hG
    refine lv_lstore (lv' := [(6, .long x_52), (0, .ref (h 20)), (1, .int p0), (2, .int p1), (3, .int p2), (4, .int p3), (5, .int x_1)]) hx hb d_D_reckons_274 hl (by decide) rfl (fun ls hl => ?_)
    refine lv_aload_n hx hb d_D_reckons_276 rfl (lv_at hl 1 rfl) ?_
    refine lv_lload hx hb d_D_reckons_277 (lv_at hl 0 rfl) ?_
    refine lv_bipush (v := (32 : Int32)) hx hb d_D_reckons_279 (by decide) ?_
    refine lv_lushr (v := zlushr x_52 (32 : Int32)) hx hb d_D_reckons_281 rfl ?_
    refine lv_l2i (v := (zlushr x_52 (32 : Int32)).toInt32) hx hb d_D_reckons_282 rfl ?_
    refine va_put (D := D) (ci := 6) (v := .int ((zlushr x_52 (32 : Int32)).toInt32)) (ty := .int) (C := "WindowMachineModel") (T := T_D) (N := 31) hx hb ht zi_D ty_D tyok_D nm_D hown hK hP hD hS 0 rfl rfl 15 (by decide) (ht _ zw_869) (fun _ h9 => h9) rfl (by decide +kernel) rfl rfl (Nat.le_of_ble_eq_true rfl) d_D_reckons_283 (fun H locs hP hD hS => ?_)
    have hP : va_P D vwCl (wD h c (upd st.1 7 ((zlushr x_52 (32 : Int32)).toInt32), st.2.1, st.2.2.1, st.2.2.2.1, st.2.2.2.2.1, st.2.2.2.2.2)) H := hP
    have hD : va_D A (wD h c (upd st.1 7 ((zlushr x_52 (32 : Int32)).toInt32), st.2.1, st.2.2.1, st.2.2.2.1, st.2.2.2.2.1, st.2.2.2.2.2)) := hD
    refine lv_goto (tgt := 295) hx hb d_D_reckons_286 (by decide) ?_
    refine lv_iload hx hb d_D_reckons_295 (lv_at hl 6 rfl) ?_
    refine zcut (X := SD) (G := fun v9 H locs ls => v9 = (if x_1 = (0 : Int32) then (upd st.1 7 ((zlushr x_52 (32 : Int32)).toInt32), st.2.1, st.2.2.1, st.2.2.2.1, st.2.2.2.2.1, st.2.2.2.2.2) else m_flags (upd st.1 7 ((zlushr x_52 (32 : Int32)).toInt32), st.2.1, st.2.2.1, st.2.2.2.1, st.2.2.2.2.1, st.2.2.2.2.2) x_52 (0 : Int32) (0 : Int32)) ∧ va_P D vwCl (wD h c v9) H ∧ va_D A (wD h c v9) ∧ va_S A s.heap H locs ∧ lv_has ls 8 [(0, .ref (h 20)), (1, .int p0), (2, .int p1), (3, .int p2), (4, .int p3), (5, .int x_1), (6, .long x_52)]) (fr := fun v9 ls => F0 m 308 ls []) (fun J_58 => ?_) (fun v9 H locs ls hG => ?_)
    · refine lv_if_eq (tgt := 308) hx hb d_D_reckons_297 (by decide) (fun c_59 => ?_) (fun c_59 => ?_)
      · exact J_58 (upd st.1 7 ((zlushr x_52 (32 : Int32)).toInt32), st.2.1, st.2.2.1, st.2.2.2.1, st.2.2.2.2.1, st.2.2.2.2.2) _ _ _ ⟨by simp only [if_pos c_59], hP, hD, hS, (lv_sub hl [1, 2, 3, 4, 5, 6, 0] rfl)⟩
      refine lv_aload_n hx hb d_D_reckons_300 rfl (lv_at hl 1 rfl) ?_
      refine lv_lload hx hb d_D_reckons_301 (lv_at hl 0 rfl) ?_
      refine lv_iconst (v := (0 : Int32)) hx hb d_D_reckons_303 (by decide) ?_
      refine lv_iconst (v := (0 : Int32)) hx hb d_D_reckons_304 (by decide) ?_
      refine zc_v (w2 := fun u9 => wD h c u9) (va_runV (As := [.long x_52, .int (0 : Int32), .int (0 : Int32)]) (rest := []) ⟨hx, hb, hml, hown, ht⟩ (mt_D_flags l D h c H.size (upd st.1 7 ((zlushr x_52 (32 : Int32)).toInt32), st.2.1, st.2.2.1, st.2.2.2.1, st.2.2.2.2.1, st.2.2.2.2.2) x_52 (0 : Int32) (0 : Int32) zB0 zB0) (cwV 3 ht (zgV zw_1039 zw_1041 zs_66 zw_7 zw_1042) rfl rfl rfl kd_D_flags ⟨Nat.le_of_ble_eq_true rfl, Nat.le_of_ble_eq_true rfl⟩) ⟨zw_blind zw_tt, va_recv (hK.sub (tys' := [(c 21, .long), (c 22, .int), (c 23, .int), (c 24, .int), (c 25, .int), (c 26, .int), (c 27, .int), (c 28, .int)]) [0, 1, 2, 3, 4, 5, 6, 7] rfl) (hP.sub (ws' := wD h c (upd st.1 7 ((zlushr x_52 (32 : Int32)).toInt32), st.2.1, st.2.2.1, st.2.2.2.1, st.2.2.2.2.1, st.2.2.2.2.2)) [0, 1, 2, 3, 4, 5, 6, 7, 8] rfl) (ci := 6) (q0 := 0) rfl rfl, zw_go (hP.sub (ws' := wD h c (upd st.1 7 ((zlushr x_52 (32 : Int32)).toInt32), st.2.1, st.2.2.1, st.2.2.2.1, st.2.2.2.2.1, st.2.2.2.2.2)) [0, 1, 2, 3, 4, 5, 6, 7, 8] rfl) (hD.sub (ws' := wD h c (upd st.1 7 ((zlushr x_52 (32 : Int32)).toInt32), st.2.1, st.2.2.1, st.2.2.2.1, st.2.2.2.2.1, st.2.2.2.2.2)) [0, 1, 2, 3, 4, 5, 6, 7, 8] (by decide) rfl) (hK.sub (tys' := [(c 21, .long), (c 22, .int), (c 23, .int), (c 24, .int), (c 25, .int), (c 26, .int), (c 27, .int), (c 28, .int)]) [0, 1, 2, 3, 4, 5, 6, 7] rfl) (fun _ _ _ => trivial)⟩ rfl rfl hl.1 rfl (lv_room (Nat.le_of_ble_eq_true rfl)) d_D_reckons_305 ⟨Nat.le_of_ble_eq_true rfl, Nat.le_of_ble_eq_true rfl⟩) hP hD hS hA [0, 1, 2, 3, 4, 5, 6, 7, 8] [] [0, 1, 2, 3, 4, 5, 6, 7, 8] rfl rfl (by decide) (by decide) (by decide) (fun _ => rfl) (fun u_60 H locs hw hP hD hS => ?_)
      subst hw
      exact J_58 (m_flags (upd st.1 7 ((zlushr x_52 (32 : Int32)).toInt32), st.2.1, st.2.2.1, st.2.2.2.1, st.2.2.2.2.1, st.2.2.2.2.2) x_52 (0 : Int32) (0 : Int32)) _ _ _ ⟨by simp only [if_neg c_59], hP, hD, hS, (lv_sub hl [1, 2, 3, 4, 5, 6, 0] rfl)⟩
    obtain ⟨u_57, rfl⟩ : ∃ z, z = v9 := ⟨_, rfl⟩
    obtain ⟨eu_57, hP, hD, hS, hl⟩ := hG
    have ok_57 : okV u_57 := by rw [eu_57]; exact (okV_iteD (fun c_57 => hV) (fun c_57 => (ov_flags hV)))
    refine lv_aload_n hx hb d_D_reckons_308 rfl (lv_at hl 0 rfl) ?_
    refine lv_iload_n hx hb d_D_reckons_309 rfl (lv_at hl 2 rfl) ?_
    refine lv_aload_n hx hb d_D_reckons_310 rfl (lv_at hl 0 rfl) ?_
    refine va_get (D := D) (ci := 6) (v := .int (u_57.1 6)) (C := "WindowMachineModel") (T := T_D) (N := 31) hx hb ht zi_D hown hK hP 0 rfl rfl 14 (by decide) (ht _ zw_868) (fun _ h9 => h9) rfl d_D_reckons_311 ?_
    refine lv_lload hx hb d_D_reckons_314 (lv_at hl 6 rfl) ?_
    refine lv_l2i (v := x_52.toInt32) hx hb d_D_reckons_316 rfl ?_
    refine zc_v (w2 := fun u9 => wD h c u9) (va_runV (As := [.int p1, .int (u_57.1 6), .int x_52.toInt32]) (rest := []) ⟨hx, hb, hml, hown, ht⟩ (mt_D_gives l D h c H.size u_57 p1 (u_57.1 6) x_52.toInt32 hr9 (ok_57).1) (cwV 3 ht (zgV zw_990 zw_992 zs_57 zw_7 zw_993) rfl rfl rfl kd_D_gives ⟨Nat.le_of_ble_eq_true rfl, Nat.le_of_ble_eq_true rfl⟩) ⟨zw_blind zw_tt, va_recv (hK.sub (tys' := [(c 21, .long), (c 22, .int), (c 23, .int), (c 24, .int), (c 25, .int), (c 26, .int), (c 27, .int), (c 28, .int)]) [0, 1, 2, 3, 4, 5, 6, 7] rfl) (hP.sub (ws' := wD h c u_57) [0, 1, 2, 3, 4, 5, 6, 7, 8] rfl) (ci := 6) (q0 := 0) rfl rfl, zw_go (hP.sub (ws' := wD h c u_57) [0, 1, 2, 3, 4, 5, 6, 7, 8] rfl) (hD.sub (ws' := wD h c u_57) [0, 1, 2, 3, 4, 5, 6, 7, 8] (by decide) rfl) (hK.sub (tys' := [(c 21, .long), (c 22, .int), (c 23, .int), (c 24, .int), (c 25, .int), (c 26, .int), (c 27, .int), (c 28, .int)]) [0, 1, 2, 3, 4, 5, 6, 7] rfl) (fun _ _ _ => trivial)⟩ rfl rfl hl.1 rfl (lv_room (Nat.le_of_ble_eq_true rfl)) d_D_reckons_317 ⟨Nat.le_of_ble_eq_true rfl, Nat.le_of_ble_eq_true rfl⟩) hP hD hS hA [0, 1, 2, 3, 4, 5, 6, 7, 8] [] [0, 1, 2, 3, 4, 5, 6, 7, 8] rfl rfl (by decide) (by decide) (by decide) (fun _ => rfl) (fun u_61 H locs hw hP hD hS => ?_)
    have eu_61 := hw
    have ok_61 : okV u_61 := by rw [eu_61]; exact (ov_gives ok_57)
    exact zl_v (u := u_61) hx hb hr hlocks hS hP hD (by simp only [m_reckons, ← ex_1, ← ex_52, ← eu_57, ← eu_61]; try simp only [if_neg c_5, if_neg c_7, if_neg c_13, if_neg c_19, if_neg c_25, if_neg c_27, if_neg c_34, if_neg c_41, if_neg c_48, if_pos c_51]) d_D_reckons_320
  by_cases c_62 : (p0 &&& (15 : Int32)) = (11 : Int32)
  · refine lv_tableIn (tgt := 246) hx hb d_D_reckons_18 (by rw [c_62]; decide) (by rw [c_62]; decide) (by rw [c_62]; rfl) (by decide) ?_
    refine lv_iload_n hx hb d_D_reckons_246 rfl (lv_at hl 2 rfl) ?_
    refine lv_bipush (v := (15 : Int32)) hx hb d_D_reckons_247 (by decide) ?_
    refine lv_iand hx hb d_D_reckons_249 ?_
    refine lv_bipush (v := (10 : Int32)) hx hb d_D_reckons_250 (by decide) ?_
    refine zcut (X := Int64) (G := fun v9 H locs ls => v9 = (if (p0 &&& (15 : Int32)) = (10 : Int32) then (m_bare p2) * (m_bare p3) else p2.toInt64 * p3.toInt64) ∧ va_P D vwCl (wD h c st) H ∧ va_D A (wD h c st) ∧ va_S A s.heap H locs ∧ lv_has ls 8 [(0, .ref (h 20)), (1, .int p0), (2, .int p1), (3, .int p2), (4, .int p3), (5, .int x_1)]) (fr := fun v9 ls => F0 m 274 ls [.long v9]) (fun J_64 => ?_) (fun v9 H locs ls hG => ?_)
    · refine lv_icmp_ne (tgt := 268) hx hb d_D_reckons_252 (by decide) (fun c_65 => ?_) (fun c_65 => ?_)
      · refine lv_iload_n hx hb d_D_reckons_268 rfl (lv_at hl 4 rfl) ?_
        refine lv_i2l (v := p2.toInt64) hx hb d_D_reckons_269 rfl ?_
        refine lv_iload hx hb d_D_reckons_270 (lv_at hl 5 rfl) ?_
        refine lv_i2l (v := p3.toInt64) hx hb d_D_reckons_272 rfl ?_
        refine lv_lmul hx hb d_D_reckons_273 ?_
        exact J_64 (p2.toInt64 * p3.toInt64) _ _ _ ⟨by simp only [if_neg c_65], hP, hD, hS, (lv_sub hl [1, 2, 3, 4, 5, 0] rfl)⟩
      refine lv_iload_n hx hb d_D_reckons_255 rfl (lv_at hl 4 rfl) ?_
      refine zc_l (w2 := fun _ => wD h c st) (va_runS (As := [.int p2]) (rest := []) ⟨hx, hb, hml, hown, ht⟩ (mt_D_bare l D H.size p2) (cwS 1 ht (zgS zw_1035 zw_1036 zw_7 zw_1037) rfl rfl rfl kd_D_bare ⟨Nat.le_of_ble_eq_true rfl, Nat.le_of_ble_eq_true rfl⟩) ⟨zw_blind zw_tt, zw_go (hP.sub (ws' := []) [] rfl) (hD.sub (ws' := []) [] (by decide) rfl) (hK.sub (tys' := []) [] rfl) (fun _ _ _ => trivial)⟩ rfl rfl hl.1 rfl (lv_room (Nat.le_of_ble_eq_true rfl)) d_D_reckons_256 ⟨Nat.le_of_ble_eq_true rfl, Nat.le_of_ble_eq_true rfl⟩) hP hD hS hA [] [0, 1, 2, 3, 4, 5, 6, 7, 8] [0, 1, 2, 3, 4, 5, 6, 7, 8] rfl rfl (by decide) (by decide) (by decide) (fun _ => rfl) (fun r_66 _ H locs hw hP hD hS => ?_)
      subst hw
      refine lv_iload hx hb d_D_reckons_259 (lv_at hl 5 rfl) ?_
      refine zc_l (w2 := fun _ => wD h c st) (va_runS (As := [.int p3]) (rest := [.long (m_bare p2)]) ⟨hx, hb, hml, hown, ht⟩ (mt_D_bare l D H.size p3) (cwS 1 ht (zgS zw_1035 zw_1036 zw_7 zw_1037) rfl rfl rfl kd_D_bare ⟨Nat.le_of_ble_eq_true rfl, Nat.le_of_ble_eq_true rfl⟩) ⟨zw_blind zw_tt, zw_go (hP.sub (ws' := []) [] rfl) (hD.sub (ws' := []) [] (by decide) rfl) (hK.sub (tys' := []) [] rfl) (fun _ _ _ => trivial)⟩ rfl rfl hl.1 rfl (lv_room (Nat.le_of_ble_eq_true rfl)) d_D_reckons_261 ⟨Nat.le_of_ble_eq_true rfl, Nat.le_of_ble_eq_true rfl⟩) hP hD hS hA [] [0, 1, 2, 3, 4, 5, 6, 7, 8] [0, 1, 2, 3, 4, 5, 6, 7, 8] rfl rfl (by decide) (by decide) (by decide) (fun _ => rfl) (fun r_67 _ H locs hw hP hD hS => ?_)
      subst hw
      refine lv_lmul hx hb d_D_reckons_264 ?_
      refine lv_goto (tgt := 274) hx hb d_D_reckons_265 (by decide) ?_
      exact J_64 ((m_bare p2) * (m_bare p3)) _ _ _ ⟨by simp only [if_pos c_65], hP, hD, hS, (lv_sub hl [1, 2, 3, 4, 5, 0] rfl)⟩
    obtain ⟨x_63, rfl⟩ : ∃ z, z = v9 := ⟨_, rfl⟩
    obtain ⟨ex_63, hP, hD, hS, hl⟩ := hG
    refine lv_lstore (lv' := [(6, .long x_63), (0, .ref (h 20)), (1, .int p0), (2, .int p1), (3, .int p2), (4, .int p3), (5, .int x_1)]) hx hb d_D_reckons_274 hl (by decide) rfl (fun ls hl => ?_)
    refine lv_aload_n hx hb d_D_reckons_276 rfl (lv_at hl 1 rfl) ?_
    refine lv_lload hx hb d_D_reckons_277 (lv_at hl 0 rfl) ?_
    refine lv_bipush (v := (32 : Int32)) hx hb d_D_reckons_279 (by decide) ?_
    refine lv_lushr (v := zlushr x_63 (32 : Int32)) hx hb d_D_reckons_281 rfl ?_
    refine lv_l2i (v := (zlushr x_63 (32 : Int32)).toInt32) hx hb d_D_reckons_282 rfl ?_
    refine va_put (D := D) (ci := 6) (v := .int ((zlushr x_63 (32 : Int32)).toInt32)) (ty := .int) (C := "WindowMachineModel") (T := T_D) (N := 31) hx hb ht zi_D ty_D tyok_D nm_D hown hK hP hD hS 0 rfl rfl 15 (by decide) (ht _ zw_869) (fun _ h9 => h9) rfl (by decide +kernel) rfl rfl (Nat.le_of_ble_eq_true rfl) d_D_reckons_283 (fun H locs hP hD hS => ?_)
    have hP : va_P D vwCl (wD h c (upd st.1 7 ((zlushr x_63 (32 : Int32)).toInt32), st.2.1, st.2.2.1, st.2.2.2.1, st.2.2.2.2.1, st.2.2.2.2.2)) H := hP
    have hD : va_D A (wD h c (upd st.1 7 ((zlushr x_63 (32 : Int32)).toInt32), st.2.1, st.2.2.1, st.2.2.2.1, st.2.2.2.2.1, st.2.2.2.2.2)) := hD
    refine lv_goto (tgt := 295) hx hb d_D_reckons_286 (by decide) ?_
    refine lv_iload hx hb d_D_reckons_295 (lv_at hl 6 rfl) ?_
    refine zcut (X := SD) (G := fun v9 H locs ls => v9 = (if x_1 = (0 : Int32) then (upd st.1 7 ((zlushr x_63 (32 : Int32)).toInt32), st.2.1, st.2.2.1, st.2.2.2.1, st.2.2.2.2.1, st.2.2.2.2.2) else m_flags (upd st.1 7 ((zlushr x_63 (32 : Int32)).toInt32), st.2.1, st.2.2.1, st.2.2.2.1, st.2.2.2.2.1, st.2.2.2.2.2) x_63 (0 : Int32) (0 : Int32)) ∧ va_P D vwCl (wD h c v9) H ∧ va_D A (wD h c v9) ∧ va_S A s.heap H locs ∧ lv_has ls 8 [(0, .ref (h 20)), (1, .int p0), (2, .int p1), (3, .int p2), (4, .int p3), (5, .int x_1), (6, .long x_63)]) (fr := fun v9 ls => F0 m 308 ls []) (fun J_69 => ?_) (fun v9 H locs ls hG => ?_)
    · refine lv_if_eq (tgt := 308) hx hb d_D_reckons_297 (by decide) (fun c_70 => ?_) (fun c_70 => ?_)
      · exact J_69 (upd st.1 7 ((zlushr x_63 (32 : Int32)).toInt32), st.2.1, st.2.2.1, st.2.2.2.1, st.2.2.2.2.1, st.2.2.2.2.2) _ _ _ ⟨by simp only [if_pos c_70], hP, hD, hS, (lv_sub hl [1, 2, 3, 4, 5, 6, 0] rfl)⟩
      refine lv_aload_n hx hb d_D_reckons_300 rfl (lv_at hl 1 rfl) ?_
      refine lv_lload hx hb d_D_reckons_301 (lv_at hl 0 rfl) ?_
      refine lv_iconst (v := (0 : Int32)) hx hb d_D_reckons_303 (by decide) ?_
      refine lv_iconst (v := (0 : Int32)) hx hb d_D_reckons_304 (by decide) ?_
      refine zc_v (w2 := fun u9 => wD h c u9) (va_runV (As := [.long x_63, .int (0 : Int32), .int (0 : Int32)]) (rest := []) ⟨hx, hb, hml, hown, ht⟩ (mt_D_flags l D h c H.size (upd st.1 7 ((zlushr x_63 (32 : Int32)).toInt32), st.2.1, st.2.2.1, st.2.2.2.1, st.2.2.2.2.1, st.2.2.2.2.2) x_63 (0 : Int32) (0 : Int32) zB0 zB0) (cwV 3 ht (zgV zw_1039 zw_1041 zs_66 zw_7 zw_1042) rfl rfl rfl kd_D_flags ⟨Nat.le_of_ble_eq_true rfl, Nat.le_of_ble_eq_true rfl⟩) ⟨zw_blind zw_tt, va_recv (hK.sub (tys' := [(c 21, .long), (c 22, .int), (c 23, .int), (c 24, .int), (c 25, .int), (c 26, .int), (c 27, .int), (c 28, .int)]) [0, 1, 2, 3, 4, 5, 6, 7] rfl) (hP.sub (ws' := wD h c (upd st.1 7 ((zlushr x_63 (32 : Int32)).toInt32), st.2.1, st.2.2.1, st.2.2.2.1, st.2.2.2.2.1, st.2.2.2.2.2)) [0, 1, 2, 3, 4, 5, 6, 7, 8] rfl) (ci := 6) (q0 := 0) rfl rfl, zw_go (hP.sub (ws' := wD h c (upd st.1 7 ((zlushr x_63 (32 : Int32)).toInt32), st.2.1, st.2.2.1, st.2.2.2.1, st.2.2.2.2.1, st.2.2.2.2.2)) [0, 1, 2, 3, 4, 5, 6, 7, 8] rfl) (hD.sub (ws' := wD h c (upd st.1 7 ((zlushr x_63 (32 : Int32)).toInt32), st.2.1, st.2.2.1, st.2.2.2.1, st.2.2.2.2.1, st.2.2.2.2.2)) [0, 1, 2, 3, 4, 5, 6, 7, 8] (by decide) rfl) (hK.sub (tys' := [(c 21, .long), (c 22, .int), (c 23, .int), (c 24, .int), (c 25, .int), (c 26, .int), (c 27, .int), (c 28, .int)]) [0, 1, 2, 3, 4, 5, 6, 7] rfl) (fun _ _ _ => trivial)⟩ rfl rfl hl.1 rfl (lv_room (Nat.le_of_ble_eq_true rfl)) d_D_reckons_305 ⟨Nat.le_of_ble_eq_true rfl, Nat.le_of_ble_eq_true rfl⟩) hP hD hS hA [0, 1, 2, 3, 4, 5, 6, 7, 8] [] [0, 1, 2, 3, 4, 5, 6, 7, 8] rfl rfl (by decide) (by decide) (by decide) (fun _ => rfl) (fun u_71 H locs hw hP hD hS => ?_)
      subst hw
      exact J_69 (m_flags (upd st.1 7 ((zlushr x_63 (32 : Int32)).toInt32), st.2.1, st.2.2.1, st.2.2.2.1, st.2.2.2.2.1, st.2.2.2.2.2) x_63 (0 : Int32) (0 : Int32)) _ _ _ ⟨by simp only [if_neg c_70], hP, hD, hS, (lv_sub hl [1, 2, 3, 4, 5, 6, 0] rfl)⟩
    obtain ⟨u_68, rfl⟩ : ∃ z, z = v9 := ⟨_, rfl⟩
    obtain ⟨eu_68, hP, hD, hS, hl⟩ := hG
    have ok_68 : okV u_68 := by rw [eu_68]; exact (okV_iteD (fun c_68 => hV) (fun c_68 => (ov_flags hV)))
    refine lv_aload_n hx hb d_D_reckons_308 rfl (lv_at hl 0 rfl) ?_
    refine lv_iload_n hx hb d_D_reckons_309 rfl (lv_at hl 2 rfl) ?_
    refine lv_aload_n hx hb d_D_reckons_310 rfl (lv_at hl 0 rfl) ?_
    refine va_get (D := D) (ci := 6) (v := .int (u_68.1 6)) (C := "WindowMachineModel") (T := T_D) (N := 31) hx hb ht zi_D hown hK hP 0 rfl rfl 14 (by decide) (ht _ zw_868) (fun _ h9 => h9) rfl d_D_reckons_311 ?_
    refine lv_lload hx hb d_D_reckons_314 (lv_at hl 6 rfl) ?_
    refine lv_l2i (v := x_63.toInt32) hx hb d_D_reckons_316 rfl ?_
    refine zc_v (w2 := fun u9 => wD h c u9) (va_runV (As := [.int p1, .int (u_68.1 6), .int x_63.toInt32]) (rest := []) ⟨hx, hb, hml, hown, ht⟩ (mt_D_gives l D h c H.size u_68 p1 (u_68.1 6) x_63.toInt32 hr9 (ok_68).1) (cwV 3 ht (zgV zw_990 zw_992 zs_57 zw_7 zw_993) rfl rfl rfl kd_D_gives ⟨Nat.le_of_ble_eq_true rfl, Nat.le_of_ble_eq_true rfl⟩) ⟨zw_blind zw_tt, va_recv (hK.sub (tys' := [(c 21, .long), (c 22, .int), (c 23, .int), (c 24, .int), (c 25, .int), (c 26, .int), (c 27, .int), (c 28, .int)]) [0, 1, 2, 3, 4, 5, 6, 7] rfl) (hP.sub (ws' := wD h c u_68) [0, 1, 2, 3, 4, 5, 6, 7, 8] rfl) (ci := 6) (q0 := 0) rfl rfl, zw_go (hP.sub (ws' := wD h c u_68) [0, 1, 2, 3, 4, 5, 6, 7, 8] rfl) (hD.sub (ws' := wD h c u_68) [0, 1, 2, 3, 4, 5, 6, 7, 8] (by decide) rfl) (hK.sub (tys' := [(c 21, .long), (c 22, .int), (c 23, .int), (c 24, .int), (c 25, .int), (c 26, .int), (c 27, .int), (c 28, .int)]) [0, 1, 2, 3, 4, 5, 6, 7] rfl) (fun _ _ _ => trivial)⟩ rfl rfl hl.1 rfl (lv_room (Nat.le_of_ble_eq_true rfl)) d_D_reckons_317 ⟨Nat.le_of_ble_eq_true rfl, Nat.le_of_ble_eq_true rfl⟩) hP hD hS hA [0, 1, 2, 3, 4, 5, 6, 7, 8] [] [0, 1, 2, 3, 4, 5, 6, 7, 8] rfl rfl (by decide) (by decide) (by decide) (fun _ => rfl) (fun u_72 H locs hw hP hD hS => ?_)
    have eu_72 := hw
    have ok_72 : okV u_72 := by rw [eu_72]; exact (ov_gives ok_68)
    exact zl_v (u := u_72) hx hb hr hlocks hS hP hD (by simp only [m_reckons, ← ex_1, ← ex_63, ← eu_68, ← eu_72]; try simp only [if_neg c_5, if_neg c_7, if_neg c_13, if_neg c_19, if_neg c_25, if_neg c_27, if_neg c_34, if_neg c_41, if_neg c_48, if_neg c_51, if_pos c_62]) d_D_reckons_320
  by_cases c_73 : (p0 &&& (15 : Int32)) = (12 : Int32)
  · refine lv_tableIn (tgt := 138) hx hb d_D_reckons_18 (by rw [c_73]; decide) (by rw [c_73]; decide) (by rw [c_73]; rfl) (by decide) ?_
    refine lv_aload_n hx hb d_D_reckons_138 rfl (lv_at hl 1 rfl) ?_
    refine lv_iload_n hx hb d_D_reckons_139 rfl (lv_at hl 3 rfl) ?_
    refine lv_iload_n hx hb d_D_reckons_140 rfl (lv_at hl 4 rfl) ?_
    refine lv_iload hx hb d_D_reckons_141 (lv_at hl 5 rfl) ?_
    refine lv_aload_n hx hb d_D_reckons_143 rfl (lv_at hl 1 rfl) ?_
    refine va_get (D := D) (ci := 6) (v := .int (st.1 16)) (C := "WindowMachineModel") (T := T_D) (N := 31) hx hb ht zi_D hown hK hP 0 rfl rfl 24 (by decide) (ht _ zw_878) (fun _ h9 => h9) rfl d_D_reckons_144 ?_
    refine zc_i (w2 := fun _ => wD h c st) (va_runS (As := [.int (st.1 16)]) (rest := [.int p3, .int p2, .int p1, .ref (h 20)]) ⟨hx, hb, hml, hown, ht⟩ (mt_D_bit l D H.size (st.1 16)) (cwS 1 ht (zgS zw_1043 zw_1044 zw_7 zw_1045) rfl rfl rfl kd_D_bit ⟨Nat.le_of_ble_eq_true rfl, Nat.le_of_ble_eq_true rfl⟩) ⟨zw_blind zw_tt, zw_go (hP.sub (ws' := []) [] rfl) (hD.sub (ws' := []) [] (by decide) rfl) (hK.sub (tys' := []) [] rfl) (fun _ _ _ => trivial)⟩ rfl rfl hl.1 rfl (lv_room (Nat.le_of_ble_eq_true rfl)) d_D_reckons_147 ⟨Nat.le_of_ble_eq_true rfl, Nat.le_of_ble_eq_true rfl⟩) hP hD hS hA [] [0, 1, 2, 3, 4, 5, 6, 7, 8] [0, 1, 2, 3, 4, 5, 6, 7, 8] rfl rfl (by decide) (by decide) (by decide) (fun _ => rfl) (fun r_74 _ H locs hw hP hD hS => ?_)
    have er_74 := hw
    refine lv_iload hx hb d_D_reckons_150 (lv_at hl 0 rfl) ?_
    refine zc_v (w2 := fun u9 => wD h c u9) (va_runV (As := [.int p1, .int p2, .int p3, .int r_74, .int x_1]) (rest := []) ⟨hx, hb, hml, hown, ht⟩ (mt_D_takes l D h c H.size st p1 p2 p3 r_74 x_1 hV hr9) (cwV 5 ht (zgV zw_1046 zw_1048 zs_67 zw_7 zw_1049) rfl rfl rfl kd_D_takes ⟨Nat.le_of_ble_eq_true rfl, Nat.le_of_ble_eq_true rfl⟩) ⟨zw_blind zw_tt, va_recv (hK.sub (tys' := [(c 21, .long), (c 22, .int), (c 23, .int), (c 24, .int), (c 25, .int), (c 26, .int), (c 27, .int), (c 28, .int)]) [0, 1, 2, 3, 4, 5, 6, 7] rfl) (hP.sub (ws' := wD h c st) [0, 1, 2, 3, 4, 5, 6, 7, 8] rfl) (ci := 6) (q0 := 0) rfl rfl, zw_go (hP.sub (ws' := wD h c st) [0, 1, 2, 3, 4, 5, 6, 7, 8] rfl) (hD.sub (ws' := wD h c st) [0, 1, 2, 3, 4, 5, 6, 7, 8] (by decide) rfl) (hK.sub (tys' := [(c 21, .long), (c 22, .int), (c 23, .int), (c 24, .int), (c 25, .int), (c 26, .int), (c 27, .int), (c 28, .int)]) [0, 1, 2, 3, 4, 5, 6, 7] rfl) (fun _ _ _ => trivial)⟩ rfl rfl hl.1 rfl (lv_room (Nat.le_of_ble_eq_true rfl)) d_D_reckons_152 ⟨Nat.le_of_ble_eq_true rfl, Nat.le_of_ble_eq_true rfl⟩) hP hD hS hA [0, 1, 2, 3, 4, 5, 6, 7, 8] [] [0, 1, 2, 3, 4, 5, 6, 7, 8] rfl rfl (by decide) (by decide) (by decide) (fun _ => rfl) (fun u_75 H locs hw hP hD hS => ?_)
    have eu_75 := hw
    have ok_75 : okV u_75 := by rw [eu_75]; exact (ov_takes hV)
    exact zl_v (u := u_75) hx hb hr hlocks hS hP hD (by simp only [m_reckons, ← ex_1, ← er_74, ← eu_75]; try simp only [if_neg c_5, if_neg c_7, if_neg c_13, if_neg c_19, if_neg c_25, if_neg c_27, if_neg c_34, if_neg c_41, if_neg c_48, if_neg c_51, if_neg c_62, if_pos c_73]) d_D_reckons_155
  by_cases c_76 : (p0 &&& (15 : Int32)) = (14 : Int32)
  · refine lv_tableIn (tgt := 156) hx hb d_D_reckons_18 (by rw [c_76]; decide) (by rw [c_76]; decide) (by rw [c_76]; rfl) (by decide) ?_
    refine lv_aload_n hx hb d_D_reckons_156 rfl (lv_at hl 1 rfl) ?_
    refine lv_iload_n hx hb d_D_reckons_157 rfl (lv_at hl 3 rfl) ?_
    refine lv_iload_n hx hb d_D_reckons_158 rfl (lv_at hl 4 rfl) ?_
    refine lv_iload hx hb d_D_reckons_159 (lv_at hl 5 rfl) ?_
    refine lv_iconst (v := (0 : Int32)) hx hb d_D_reckons_161 (by decide) ?_
    refine lv_iload hx hb d_D_reckons_162 (lv_at hl 0 rfl) ?_
    refine zc_v (w2 := fun u9 => wD h c u9) (va_runV (As := [.int p1, .int p2, .int p3, .int (0 : Int32), .int x_1]) (rest := []) ⟨hx, hb, hml, hown, ht⟩ (mt_D_divides l D h c H.size st p1 p2 p3 (0 : Int32) x_1 hV hr9) (cwV 5 ht (zgV zw_1050 zw_1052 zs_68 zw_7 zw_1053) rfl rfl rfl kd_D_divides ⟨Nat.le_of_ble_eq_true rfl, Nat.le_of_ble_eq_true rfl⟩) ⟨zw_blind zw_tt, va_recv (hK.sub (tys' := [(c 21, .long), (c 22, .int), (c 23, .int), (c 24, .int), (c 25, .int), (c 26, .int), (c 27, .int), (c 28, .int)]) [0, 1, 2, 3, 4, 5, 6, 7] rfl) (hP.sub (ws' := wD h c st) [0, 1, 2, 3, 4, 5, 6, 7, 8] rfl) (ci := 6) (q0 := 0) rfl rfl, zw_go (hP.sub (ws' := wD h c st) [0, 1, 2, 3, 4, 5, 6, 7, 8] rfl) (hD.sub (ws' := wD h c st) [0, 1, 2, 3, 4, 5, 6, 7, 8] (by decide) rfl) (hK.sub (tys' := [(c 21, .long), (c 22, .int), (c 23, .int), (c 24, .int), (c 25, .int), (c 26, .int), (c 27, .int), (c 28, .int)]) [0, 1, 2, 3, 4, 5, 6, 7] rfl) (fun _ _ _ => trivial)⟩ rfl rfl hl.1 rfl (lv_room (Nat.le_of_ble_eq_true rfl)) d_D_reckons_164 ⟨Nat.le_of_ble_eq_true rfl, Nat.le_of_ble_eq_true rfl⟩) hP hD hS hA [0, 1, 2, 3, 4, 5, 6, 7, 8] [] [0, 1, 2, 3, 4, 5, 6, 7, 8] rfl rfl (by decide) (by decide) (by decide) (fun _ => rfl) (fun u_77 H locs hw hP hD hS => ?_)
    have eu_77 := hw
    have ok_77 : okV u_77 := by rw [eu_77]; exact (ov_divides hV)
    exact zl_v (u := u_77) hx hb hr hlocks hS hP hD (by simp only [m_reckons, ← ex_1, ← eu_77]; try simp only [if_neg c_5, if_neg c_7, if_neg c_13, if_neg c_19, if_neg c_25, if_neg c_27, if_neg c_34, if_neg c_41, if_neg c_48, if_neg c_51, if_neg c_62, if_neg c_73, if_pos c_76]) d_D_reckons_167
  by_cases c_78 : (p0 &&& (15 : Int32)) = (15 : Int32)
  · refine lv_tableIn (tgt := 168) hx hb d_D_reckons_18 (by rw [c_78]; decide) (by rw [c_78]; decide) (by rw [c_78]; rfl) (by decide) ?_
    refine lv_aload_n hx hb d_D_reckons_168 rfl (lv_at hl 1 rfl) ?_
    refine lv_iload_n hx hb d_D_reckons_169 rfl (lv_at hl 3 rfl) ?_
    refine lv_iload_n hx hb d_D_reckons_170 rfl (lv_at hl 4 rfl) ?_
    refine lv_iload hx hb d_D_reckons_171 (lv_at hl 5 rfl) ?_
    refine lv_iconst (v := (1 : Int32)) hx hb d_D_reckons_173 (by decide) ?_
    refine lv_iload hx hb d_D_reckons_174 (lv_at hl 0 rfl) ?_
    refine zc_v (w2 := fun u9 => wD h c u9) (va_runV (As := [.int p1, .int p2, .int p3, .int (1 : Int32), .int x_1]) (rest := []) ⟨hx, hb, hml, hown, ht⟩ (mt_D_divides l D h c H.size st p1 p2 p3 (1 : Int32) x_1 hV hr9) (cwV 5 ht (zgV zw_1050 zw_1052 zs_68 zw_7 zw_1053) rfl rfl rfl kd_D_divides ⟨Nat.le_of_ble_eq_true rfl, Nat.le_of_ble_eq_true rfl⟩) ⟨zw_blind zw_tt, va_recv (hK.sub (tys' := [(c 21, .long), (c 22, .int), (c 23, .int), (c 24, .int), (c 25, .int), (c 26, .int), (c 27, .int), (c 28, .int)]) [0, 1, 2, 3, 4, 5, 6, 7] rfl) (hP.sub (ws' := wD h c st) [0, 1, 2, 3, 4, 5, 6, 7, 8] rfl) (ci := 6) (q0 := 0) rfl rfl, zw_go (hP.sub (ws' := wD h c st) [0, 1, 2, 3, 4, 5, 6, 7, 8] rfl) (hD.sub (ws' := wD h c st) [0, 1, 2, 3, 4, 5, 6, 7, 8] (by decide) rfl) (hK.sub (tys' := [(c 21, .long), (c 22, .int), (c 23, .int), (c 24, .int), (c 25, .int), (c 26, .int), (c 27, .int), (c 28, .int)]) [0, 1, 2, 3, 4, 5, 6, 7] rfl) (fun _ _ _ => trivial)⟩ rfl rfl hl.1 rfl (lv_room (Nat.le_of_ble_eq_true rfl)) d_D_reckons_176 ⟨Nat.le_of_ble_eq_true rfl, Nat.le_of_ble_eq_true rfl⟩) hP hD hS hA [0, 1, 2, 3, 4, 5, 6, 7, 8] [] [0, 1, 2, 3, 4, 5, 6, 7, 8] rfl rfl (by decide) (by decide) (by decide) (fun _ => rfl) (fun u_79 H locs hw hP hD hS => ?_)
    have eu_79 := hw
    have ok_79 : okV u_79 := by rw [eu_79]; exact (ov_divides hV)
    exact zl_v (u := u_79) hx hb hr hlocks hS hP hD (by simp only [m_reckons, ← ex_1, ← eu_79]; try simp only [if_neg c_5, if_neg c_7, if_neg c_13, if_neg c_19, if_neg c_25, if_neg c_27, if_neg c_34, if_neg c_41, if_neg c_48, if_neg c_51, if_neg c_62, if_neg c_73, if_neg c_76, if_pos c_78]) d_D_reckons_179
  refine zsame (g := F0 m 289 ls []) ?_ (fun hd_4 => ?_)
  · refine lv_aload_n hx hb d_D_reckons_289 rfl (lv_at hl 1 rfl) ?_
    refine lv_iconst (v := (2 : Int32)) hx hb d_D_reckons_290 (by decide) ?_
    refine va_put (D := D) (ci := 6) (v := .int (2 : Int32)) (ty := .int) (C := "WindowMachineModel") (T := T_D) (N := 31) hx hb ht zi_D ty_D tyok_D nm_D hown hK hP hD hS 0 rfl rfl 29 (by decide) (ht _ zw_883) (fun _ h9 => h9) rfl (by decide +kernel) rfl rfl (Nat.le_of_ble_eq_true rfl) d_D_reckons_291 (fun H locs hP hD hS => ?_)
    have hP : va_P D vwCl (wD h c (upd st.1 21 (2 : Int32), st.2.1, st.2.2.1, st.2.2.2.1, st.2.2.2.2.1, st.2.2.2.2.2)) H := hP
    have hD : va_D A (wD h c (upd st.1 21 (2 : Int32), st.2.1, st.2.2.1, st.2.2.2.1, st.2.2.2.2.1, st.2.2.2.2.2)) := hD
    exact zl_v (u := (upd st.1 21 (2 : Int32), st.2.1, st.2.2.1, st.2.2.2.1, st.2.2.2.2.1, st.2.2.2.2.2)) hx hb hr hlocks hS hP hD (by simp only [m_reckons, ← ex_1]; try simp only [if_neg c_5, if_neg c_7, if_neg c_13, if_neg c_19, if_neg c_25, if_neg c_27, if_neg c_34, if_neg c_41, if_neg c_48, if_neg c_51, if_neg c_62, if_neg c_73, if_neg c_76, if_neg c_78]) d_D_reckons_294
  by_cases c_80 : (p0 &&& (15 : Int32)) = (9 : Int32)
  · exact lv_tableIn (tgt := 289) hx hb d_D_reckons_18 (by rw [c_80]; decide) (by rw [c_80]; decide) (by rw [c_80]; rfl) (by decide) hd_4
  by_cases c_81 : (p0 &&& (15 : Int32)) = (13 : Int32)
  · exact lv_tableIn (tgt := 289) hx hb d_D_reckons_18 (by rw [c_81]; decide) (by rw [c_81]; decide) (by rw [c_81]; rfl) (by decide) hd_4
  exact lv_tableOut (tgt := 289) hx hb d_D_reckons_18 (by have := lv_neT c_5 (a := 0) (by decide); have := lv_neT c_7 (a := 1) (by decide); have := lv_neT c_13 (a := 2) (by decide); have := lv_neT c_19 (a := 3) (by decide); have := lv_neT c_25 (a := 4) (by decide); have := lv_neT c_27 (a := 5) (by decide); have := lv_neT c_34 (a := 6) (by decide); have := lv_neT c_41 (a := 7) (by decide); have := lv_neT c_48 (a := 8) (by decide); have := lv_neT c_80 (a := 9) (by decide); have := lv_neT c_51 (a := 10) (by decide); have := lv_neT c_62 (a := 11) (by decide); have := lv_neT c_73 (a := 12) (by decide); have := lv_neT c_81 (a := 13) (by decide); have := lv_neT c_76 (a := 14) (by decide); have := lv_neT c_78 (a := 15) (by decide); omega) (by decide) hd_4
