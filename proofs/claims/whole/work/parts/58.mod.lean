theorem as_0 {st : SD} {i : Nat} (hL : 0 ≤ (st.1 1).toInt ∧ (st.1 1).toInt ≤ 40) (hi : i ≤ 40) (c : ¬ (st.1 1) ≤ nI i) : i + 1 ≤ 40 := by
  have q := nle_toInt c
  rw [nI_toInt (by omega)] at q
  omega
theorem as_1 {st : SD} {i : Nat} (hL : 0 ≤ (st.1 1).toInt ∧ (st.1 1).toInt ≤ 40) (hi : i ≤ 40) (c : ¬ (st.1 1) ≤ nI i) : vp_in (nI i) 40 := vp_in_nI (as_0 hL hi c) (by decide)
theorem as_2 {m n : Nat} {x : Int32} (hI : x.toInt + 2 ≤ ((n + 1 : Nat) : Int) ∧ -1 ≤ x.toInt ∧ x.toInt ≤ 39 ∧ m ≤ 40) (c : ¬ x < (0 : Int32)) : vp_in x 40 := by
  have q : ¬ x.toInt < 0 := fun z => c (Int32.lt_iff_toInt_lt.mpr (by rw [show (0 : Int32).toInt = 0 from by decide]; exact z))
  exact vp_in_iff.mpr ⟨by omega, by omega⟩
theorem as_b {m n : Nat} {x : Int32} (hI : x.toInt + 2 ≤ ((n + 1 : Nat) : Int) ∧ -1 ≤ x.toInt ∧ x.toInt ≤ 39 ∧ m ≤ 40) (c : ¬ x < (0 : Int32)) : (x + (-1 : Int32)).toInt + 2 ≤ (n : Int) ∧ -1 ≤ (x + (-1 : Int32)).toInt ∧ (x + (-1 : Int32)).toInt ≤ 39 ∧ m ≤ 40 := by
  have q : ¬ x.toInt < 0 := fun z => c (Int32.lt_iff_toInt_lt.mpr (by rw [show (0 : Int32).toInt = 0 from by decide]; exact z))
  have e : (x + (-1 : Int32)).toInt = x.toInt - 1 := by
    rw [Int32.toInt_add, show (-1 : Int32).toInt = -1 from by decide]
    have : (x.toInt + -1).bmod (2 ^ 32) = x.toInt + -1 := by apply Int.bmod_eq_of_le <;> omega
    rw [this]
    omega
  rw [e]
  omega
theorem as_i0 {m : Nat} (h : m ≤ 40) : (nI m - (1 : Int32)).toInt + 2 ≤ ((42 : Nat) : Int) ∧ -1 ≤ (nI m - (1 : Int32)).toInt ∧ (nI m - (1 : Int32)).toInt ≤ 39 ∧ m ≤ 40 := by
  have e : (nI m - (1 : Int32)).toInt = (m : Int) - 1 := by
    rw [Int32.toInt_sub, nI_toInt (by omega), show (1 : Int32).toInt = 1 from by decide]
    apply Int.bmod_eq_of_le <;> omega
  rw [e]
  omega
theorem as_3 {m r : Nat} (h : m ≤ 40 ∧ r ≤ 91) (c : ¬ nI r = (91 : Int32)) : vp_in (nI r) 91 := by
  refine vp_in_nI ?_ (by decide)
  rcases Nat.lt_or_ge r 91 with q | q
  · exact q
  · exact absurd (show nI r = nI 91 by rw [show r = 91 by omega]) c
theorem ol_at {st : SD} {m r : Nat} (hL : 0 ≤ (st.1 1).toInt ∧ (st.1 1).toInt ≤ 40) (h : m ≤ 40 ∧ r ≤ 91) : okL 40 (upd st.1 3 (nI m), st.2.1, st.2.2.1, st.2.2.2.1, st.2.2.2.2.1, st.2.2.2.2.2) := by
  have e := nI_toInt (n := m) (by omega)
  have q : 0 ≤ (nI m).toInt ∧ (nI m).toInt ≤ ((40 : Nat) : Int) ∧ (st.1 1).toInt ≤ 40 := by
    rw [e]
    omega
  exact q
theorem pw_in2 {st : SD} {a r x f : Int32} (er : r = m_isWord a) (ex : x = (if r = (0 : Int32) then (1 : Int32) else (0 : Int32))) (ef : f = (m_fails st x (2 : Int32)).1) (c : f = (0 : Int32)) : 0 ≤ a.toInt ∧ 0 ≤ (4 : Int32).toInt ∧ (4 : Int32).toInt ≤ 8 ∧ a.toInt + (4 : Int32).toInt ≤ 1024 := by
  have q := fl_no (by decide) (ef.symm.trans c)
  have hr : ¬ r = (0 : Int32) := fun z => by rw [ex, if_pos z] at q; exact absurd q (by decide)
  rw [er] at hr
  unfold m_isWord at hr
  dsimp only at hr
  have hi : ¬ m_in a.toInt64 (0 : Int64) (1020 : Int64) = (0 : Int32) := fun z => hr (by rw [if_pos z])
  have b := in_of hi
  rw [Int32.toInt_toInt64] at b
  have e0 : (0 : Int64).toInt = 0 := by decide
  have e1 : (1020 : Int64).toInt = 1020 := by decide
  have e4 : (4 : Int32).toInt = 4 := by decide
  rw [e0, e1] at b
  rw [e4]
  omega
theorem d_D_assembled_0 : decode c_D_assembled 0 = .ok (.lconst 0, 1) := by decide +kernel
theorem d_D_assembled_1 : decode c_D_assembled 1 = .ok (.lstore_n 1, 1) := by decide +kernel
theorem d_D_assembled_2 : decode c_D_assembled 2 = .ok (.iconst 0, 1) := by decide +kernel
theorem d_D_assembled_3 : decode c_D_assembled 3 = .ok (.istore_n 3, 1) := by decide +kernel
theorem d_D_assembled_4 : decode c_D_assembled 4 = .ok (.iload_n 3, 1) := by decide +kernel
theorem d_D_assembled_5 : decode c_D_assembled 5 = .ok (.aload_n 0, 1) := by decide +kernel
theorem d_D_assembled_6 : decode c_D_assembled 6 = .ok (.getfield 410, 3) := by decide +kernel
theorem d_D_assembled_9 : decode c_D_assembled 9 = .ok (.if_icmp .ge 28, 3) := by decide +kernel
theorem d_D_assembled_12 : decode c_D_assembled 12 = .ok (.aload_n 0, 1) := by decide +kernel
theorem d_D_assembled_13 : decode c_D_assembled 13 = .ok (.getfield 206, 3) := by decide +kernel
theorem d_D_assembled_16 : decode c_D_assembled 16 = .ok (.iload_n 3, 1) := by decide +kernel
theorem d_D_assembled_17 : decode c_D_assembled 17 = .ok (.iaload, 1) := by decide +kernel
theorem d_D_assembled_18 : decode c_D_assembled 18 = .ok (.i2l, 1) := by decide +kernel
theorem d_D_assembled_19 : decode c_D_assembled 19 = .ok (.ldc2_w 464, 3) := by decide +kernel
theorem d_D_assembled_22 : decode c_D_assembled 22 = .ok (.ldc2_w 466, 3) := by decide +kernel
theorem d_D_assembled_25 : decode c_D_assembled 25 = .ok (.invokestatic 282, 3) := by decide +kernel
theorem d_D_assembled_28 : decode c_D_assembled 28 = .ok (.ifCond .eq 9, 3) := by decide +kernel
theorem d_D_assembled_31 : decode c_D_assembled 31 = .ok (.iinc 3 1, 3) := by decide +kernel
theorem d_D_assembled_34 : decode c_D_assembled 34 = .ok (.goto (-30), 3) := by decide +kernel
theorem d_D_assembled_37 : decode c_D_assembled 37 = .ok (.iload_n 3, 1) := by decide +kernel
theorem d_D_assembled_38 : decode c_D_assembled 38 = .ok (.iconst 1, 1) := by decide +kernel
theorem d_D_assembled_39 : decode c_D_assembled 39 = .ok (.isub, 1) := by decide +kernel
theorem d_D_assembled_40 : decode c_D_assembled 40 = .ok (.istore 4, 2) := by decide +kernel
theorem d_D_assembled_42 : decode c_D_assembled 42 = .ok (.iload 4, 2) := by decide +kernel
theorem d_D_assembled_44 : decode c_D_assembled 44 = .ok (.ifCond .lt 29, 3) := by decide +kernel
theorem d_D_assembled_47 : decode c_D_assembled 47 = .ok (.iload_n 3, 1) := by decide +kernel
theorem d_D_assembled_48 : decode c_D_assembled 48 = .ok (.bipush 9, 2) := by decide +kernel
theorem d_D_assembled_50 : decode c_D_assembled 50 = .ok (.if_icmp .ge 23, 3) := by decide +kernel
theorem d_D_assembled_53 : decode c_D_assembled 53 = .ok (.lload_n 1, 1) := by decide +kernel
theorem d_D_assembled_54 : decode c_D_assembled 54 = .ok (.bipush 8, 2) := by decide +kernel
theorem d_D_assembled_56 : decode c_D_assembled 56 = .ok (.lshl, 1) := by decide +kernel
theorem d_D_assembled_57 : decode c_D_assembled 57 = .ok (.aload_n 0, 1) := by decide +kernel
theorem d_D_assembled_58 : decode c_D_assembled 58 = .ok (.getfield 206, 3) := by decide +kernel
theorem d_D_assembled_61 : decode c_D_assembled 61 = .ok (.iload 4, 2) := by decide +kernel
theorem d_D_assembled_63 : decode c_D_assembled 63 = .ok (.iaload, 1) := by decide +kernel
theorem d_D_assembled_64 : decode c_D_assembled 64 = .ok (.i2l, 1) := by decide +kernel
theorem d_D_assembled_65 : decode c_D_assembled 65 = .ok (.lor, 1) := by decide +kernel
theorem d_D_assembled_66 : decode c_D_assembled 66 = .ok (.lstore_n 1, 1) := by decide +kernel
theorem d_D_assembled_67 : decode c_D_assembled 67 = .ok (.iinc 4 (-1), 3) := by decide +kernel
theorem d_D_assembled_70 : decode c_D_assembled 70 = .ok (.goto (-28), 3) := by decide +kernel
theorem d_D_assembled_73 : decode c_D_assembled 73 = .ok (.iconst 0, 1) := by decide +kernel
theorem d_D_assembled_74 : decode c_D_assembled 74 = .ok (.istore 4, 2) := by decide +kernel
theorem d_D_assembled_76 : decode c_D_assembled 76 = .ok (.iload 4, 2) := by decide +kernel
theorem d_D_assembled_78 : decode c_D_assembled 78 = .ok (.aload_n 0, 1) := by decide +kernel
theorem d_D_assembled_79 : decode c_D_assembled 79 = .ok (.getfield 189, 3) := by decide +kernel
theorem d_D_assembled_82 : decode c_D_assembled 82 = .ok (.arraylength, 1) := by decide +kernel
theorem d_D_assembled_83 : decode c_D_assembled 83 = .ok (.if_icmp .ge 21, 3) := by decide +kernel
theorem d_D_assembled_86 : decode c_D_assembled 86 = .ok (.aload_n 0, 1) := by decide +kernel
theorem d_D_assembled_87 : decode c_D_assembled 87 = .ok (.getfield 189, 3) := by decide +kernel
theorem d_D_assembled_90 : decode c_D_assembled 90 = .ok (.iload 4, 2) := by decide +kernel
theorem d_D_assembled_92 : decode c_D_assembled 92 = .ok (.laload, 1) := by decide +kernel
theorem d_D_assembled_93 : decode c_D_assembled 93 = .ok (.lload_n 1, 1) := by decide +kernel
theorem d_D_assembled_94 : decode c_D_assembled 94 = .ok (.lcmp, 1) := by decide +kernel
theorem d_D_assembled_95 : decode c_D_assembled 95 = .ok (.ifCond .eq 9, 3) := by decide +kernel
theorem d_D_assembled_98 : decode c_D_assembled 98 = .ok (.iinc 4 1, 3) := by decide +kernel
theorem d_D_assembled_101 : decode c_D_assembled 101 = .ok (.goto (-25), 3) := by decide +kernel
theorem d_D_assembled_104 : decode c_D_assembled 104 = .ok (.iload 4, 2) := by decide +kernel
theorem d_D_assembled_106 : decode c_D_assembled 106 = .ok (.aload_n 0, 1) := by decide +kernel
theorem d_D_assembled_107 : decode c_D_assembled 107 = .ok (.getfield 189, 3) := by decide +kernel
theorem d_D_assembled_110 : decode c_D_assembled 110 = .ok (.arraylength, 1) := by decide +kernel
theorem d_D_assembled_111 : decode c_D_assembled 111 = .ok (.if_icmp .ne 10, 3) := by decide +kernel
theorem d_D_assembled_114 : decode c_D_assembled 114 = .ok (.aload_n 0, 1) := by decide +kernel
theorem d_D_assembled_115 : decode c_D_assembled 115 = .ok (.iconst 0, 1) := by decide +kernel
theorem d_D_assembled_116 : decode c_D_assembled 116 = .ok (.invokevirtual 423, 3) := by decide +kernel
theorem d_D_assembled_119 : decode c_D_assembled 119 = .ok (.iconst 0, 1) := by decide +kernel
theorem d_D_assembled_120 : decode c_D_assembled 120 = .ok (.ireturn, 1) := by decide +kernel
theorem d_D_assembled_121 : decode c_D_assembled 121 = .ok (.aload_n 0, 1) := by decide +kernel
theorem d_D_assembled_122 : decode c_D_assembled 122 = .ok (.iload_n 3, 1) := by decide +kernel
theorem d_D_assembled_123 : decode c_D_assembled 123 = .ok (.putfield 413, 3) := by decide +kernel
theorem d_D_assembled_126 : decode c_D_assembled 126 = .ok (.aload_n 0, 1) := by decide +kernel
theorem d_D_assembled_127 : decode c_D_assembled 127 = .ok (.getfield 195, 3) := by decide +kernel
theorem d_D_assembled_130 : decode c_D_assembled 130 = .ok (.iload 4, 2) := by decide +kernel
theorem d_D_assembled_132 : decode c_D_assembled 132 = .ok (.iaload, 1) := by decide +kernel
theorem d_D_assembled_133 : decode c_D_assembled 133 = .ok (.istore 5, 2) := by decide +kernel
theorem d_D_assembled_135 : decode c_D_assembled 135 = .ok (.aload_n 0, 1) := by decide +kernel
theorem d_D_assembled_136 : decode c_D_assembled 136 = .ok (.getfield 199, 3) := by decide +kernel
theorem d_D_assembled_139 : decode c_D_assembled 139 = .ok (.iload 4, 2) := by decide +kernel
theorem d_D_assembled_141 : decode c_D_assembled 141 = .ok (.iaload, 1) := by decide +kernel
theorem d_D_assembled_142 : decode c_D_assembled 142 = .ok (.istore 6, 2) := by decide +kernel
theorem d_D_assembled_144 : decode c_D_assembled 144 = .ok (.iload 5, 2) := by decide +kernel
theorem d_D_assembled_146 : decode c_D_assembled 146 = .ok (.bipush 7, 2) := by decide +kernel
theorem d_D_assembled_148 : decode c_D_assembled 148 = .ok (.if_icmp .eq 9, 3) := by decide +kernel
theorem d_D_assembled_151 : decode c_D_assembled 151 = .ok (.aload_n 0, 1) := by decide +kernel
theorem d_D_assembled_152 : decode c_D_assembled 152 = .ok (.bipush 32, 2) := by decide +kernel
theorem d_D_assembled_154 : decode c_D_assembled 154 = .ok (.invokevirtual 426, 3) := by decide +kernel
theorem d_D_assembled_157 : decode c_D_assembled 157 = .ok (.aload_n 0, 1) := by decide +kernel
theorem d_D_assembled_158 : decode c_D_assembled 158 = .ok (.getfield 202, 3) := by decide +kernel
theorem d_D_assembled_161 : decode c_D_assembled 161 = .ok (.ifCond .lt 5, 3) := by decide +kernel
theorem d_D_assembled_164 : decode c_D_assembled 164 = .ok (.iconst 0, 1) := by decide +kernel
theorem d_D_assembled_165 : decode c_D_assembled 165 = .ok (.ireturn, 1) := by decide +kernel
theorem d_D_assembled_166 : decode c_D_assembled 166 = .ok (.iload 5, 2) := by decide +kernel
theorem d_D_assembled_168 : decode c_D_assembled 168 = .ok (.iconst 1, 1) := by decide +kernel
theorem d_D_assembled_169 : decode c_D_assembled 169 = .ok (.if_icmp .ne 36, 3) := by decide +kernel
theorem d_D_assembled_172 : decode c_D_assembled 172 = .ok (.aload_n 0, 1) := by decide +kernel
theorem d_D_assembled_173 : decode c_D_assembled 173 = .ok (.lconst 0, 1) := by decide +kernel
theorem d_D_assembled_174 : decode c_D_assembled 174 = .ok (.ldc2_w 468, 3) := by decide +kernel
theorem d_D_assembled_177 : decode c_D_assembled 177 = .ok (.invokevirtual 442, 3) := by decide +kernel
theorem d_D_assembled_180 : decode c_D_assembled 180 = .ok (.istore 8, 2) := by decide +kernel
theorem d_D_assembled_182 : decode c_D_assembled 182 = .ok (.aload_n 0, 1) := by decide +kernel
theorem d_D_assembled_183 : decode c_D_assembled 183 = .ok (.invokevirtual 452, 3) := by decide +kernel
theorem d_D_assembled_186 : decode c_D_assembled 186 = .ok (.aload_n 0, 1) := by decide +kernel
theorem d_D_assembled_187 : decode c_D_assembled 187 = .ok (.invokevirtual 449, 3) := by decide +kernel
theorem d_D_assembled_190 : decode c_D_assembled 190 = .ok (.bipush 25, 2) := by decide +kernel
theorem d_D_assembled_192 : decode c_D_assembled 192 = .ok (.ishl, 1) := by decide +kernel
theorem d_D_assembled_193 : decode c_D_assembled 193 = .ok (.ldc_w 470, 3) := by decide +kernel
theorem d_D_assembled_196 : decode c_D_assembled 196 = .ok (.ior, 1) := by decide +kernel
theorem d_D_assembled_197 : decode c_D_assembled 197 = .ok (.iload 8, 2) := by decide +kernel
theorem d_D_assembled_199 : decode c_D_assembled 199 = .ok (.ior, 1) := by decide +kernel
theorem d_D_assembled_200 : decode c_D_assembled 200 = .ok (.istore 7, 2) := by decide +kernel
theorem d_D_assembled_202 : decode c_D_assembled 202 = .ok (.goto 74, 3) := by decide +kernel
theorem d_D_assembled_205 : decode c_D_assembled 205 = .ok (.iload 5, 2) := by decide +kernel
theorem d_D_assembled_207 : decode c_D_assembled 207 = .ok (.iconst 4, 1) := by decide +kernel
theorem d_D_assembled_208 : decode c_D_assembled 208 = .ok (.if_icmp .ne 26, 3) := by decide +kernel
theorem d_D_assembled_211 : decode c_D_assembled 211 = .ok (.ldc_w 471, 3) := by decide +kernel
theorem d_D_assembled_214 : decode c_D_assembled 214 = .ok (.aload_n 0, 1) := by decide +kernel
theorem d_D_assembled_215 : decode c_D_assembled 215 = .ok (.ldc2_w 472, 3) := by decide +kernel
theorem d_D_assembled_218 : decode c_D_assembled 218 = .ok (.ldc2_w 474, 3) := by decide +kernel
theorem d_D_assembled_221 : decode c_D_assembled 221 = .ok (.invokevirtual 442, 3) := by decide +kernel
theorem d_D_assembled_224 : decode c_D_assembled 224 = .ok (.ldc_w 476, 3) := by decide +kernel
theorem d_D_assembled_227 : decode c_D_assembled 227 = .ok (.iand, 1) := by decide +kernel
theorem d_D_assembled_228 : decode c_D_assembled 228 = .ok (.ior, 1) := by decide +kernel
theorem d_D_assembled_229 : decode c_D_assembled 229 = .ok (.istore 7, 2) := by decide +kernel
theorem d_D_assembled_231 : decode c_D_assembled 231 = .ok (.goto 45, 3) := by decide +kernel
theorem d_D_assembled_234 : decode c_D_assembled 234 = .ok (.iload 5, 2) := by decide +kernel
theorem d_D_assembled_236 : decode c_D_assembled 236 = .ok (.iconst 5, 1) := by decide +kernel
theorem d_D_assembled_237 : decode c_D_assembled 237 = .ok (.if_icmp .ne 14, 3) := by decide +kernel
theorem d_D_assembled_240 : decode c_D_assembled 240 = .ok (.aload_n 0, 1) := by decide +kernel
theorem d_D_assembled_241 : decode c_D_assembled 241 = .ok (.iload 6, 2) := by decide +kernel
theorem d_D_assembled_243 : decode c_D_assembled 243 = .ok (.invokevirtual 477, 3) := by decide +kernel
theorem d_D_assembled_246 : decode c_D_assembled 246 = .ok (.istore 7, 2) := by decide +kernel
theorem d_D_assembled_248 : decode c_D_assembled 248 = .ok (.goto 28, 3) := by decide +kernel
theorem d_D_assembled_251 : decode c_D_assembled 251 = .ok (.iload 5, 2) := by decide +kernel
theorem d_D_assembled_253 : decode c_D_assembled 253 = .ok (.bipush 7, 2) := by decide +kernel
theorem d_D_assembled_255 : decode c_D_assembled 255 = .ok (.if_icmp .ne 11, 3) := by decide +kernel
theorem d_D_assembled_258 : decode c_D_assembled 258 = .ok (.ldc_w 470, 3) := by decide +kernel
theorem d_D_assembled_261 : decode c_D_assembled 261 = .ok (.istore 7, 2) := by decide +kernel
theorem d_D_assembled_263 : decode c_D_assembled 263 = .ok (.goto 13, 3) := by decide +kernel
theorem d_D_assembled_266 : decode c_D_assembled 266 = .ok (.aload_n 0, 1) := by decide +kernel
theorem d_D_assembled_267 : decode c_D_assembled 267 = .ok (.iload 5, 2) := by decide +kernel
theorem d_D_assembled_269 : decode c_D_assembled 269 = .ok (.iload 6, 2) := by decide +kernel
theorem d_D_assembled_271 : decode c_D_assembled 271 = .ok (.invokevirtual 481, 3) := by decide +kernel
theorem d_D_assembled_274 : decode c_D_assembled 274 = .ok (.istore 7, 2) := by decide +kernel
theorem d_D_assembled_276 : decode c_D_assembled 276 = .ok (.aload_n 0, 1) := by decide +kernel
theorem d_D_assembled_277 : decode c_D_assembled 277 = .ok (.getfield 202, 3) := by decide +kernel
theorem d_D_assembled_280 : decode c_D_assembled 280 = .ok (.ifCond .ge 22, 3) := by decide +kernel
theorem d_D_assembled_283 : decode c_D_assembled 283 = .ok (.aload_n 0, 1) := by decide +kernel
theorem d_D_assembled_284 : decode c_D_assembled 284 = .ok (.getfield 413, 3) := by decide +kernel
theorem d_D_assembled_287 : decode c_D_assembled 287 = .ok (.aload_n 0, 1) := by decide +kernel
theorem d_D_assembled_288 : decode c_D_assembled 288 = .ok (.getfield 410, 3) := by decide +kernel
theorem d_D_assembled_291 : decode c_D_assembled 291 = .ok (.if_icmp .ge 11, 3) := by decide +kernel
theorem d_D_assembled_294 : decode c_D_assembled 294 = .ok (.aload_n 0, 1) := by decide +kernel
theorem d_D_assembled_295 : decode c_D_assembled 295 = .ok (.aload_n 0, 1) := by decide +kernel
theorem d_D_assembled_296 : decode c_D_assembled 296 = .ok (.getfield 413, 3) := by decide +kernel
theorem d_D_assembled_299 : decode c_D_assembled 299 = .ok (.invokevirtual 423, 3) := by decide +kernel
theorem d_D_assembled_302 : decode c_D_assembled 302 = .ok (.iload 7, 2) := by decide +kernel
theorem d_D_assembled_304 : decode c_D_assembled 304 = .ok (.ireturn, 1) := by decide +kernel
theorem kd_D_assembled : (y_D_assembled).cls = "WindowMachineModel" ∧ (y_D_assembled).cls ≠ "java/lang/invoke/MethodHandle" ∧ (y_D_assembled).cls ≠ "java/lang/invoke/VarHandle" ∧ (parseMethodDescriptor (y_D_assembled).desc).map (fun d => d.parameters.length) = some 0 := by decide +kernel
def fg_D_assembled_104 (st : SD) : Int64 → Nat → Nat → Int32 × SD := fun x_22 i_23 i_24 => (if (nI i_24) = (91 : Int32) then (let u_82 := m_wrong st (0 : Int32); ((0 : Int32), u_82)) else (let x_35 := fmT (nI i_24).toNatClampNeg; (let x_36 := cdT (nI i_24).toNatClampNeg; (if x_35 = (7 : Int32) then (if (st.1 2) < (0 : Int32) then (let u_43 := (if (0 : Int32) ≤ (st.1 2) then (upd st.1 3 (nI i_23), st.2.1, st.2.2.1, st.2.2.2.1, st.2.2.2.2.1, st.2.2.2.2.2) else (if (st.1 1) ≤ (nI i_23) then (upd st.1 3 (nI i_23), st.2.1, st.2.2.1, st.2.2.2.1, st.2.2.2.2.1, st.2.2.2.2.2) else m_wrong (upd st.1 3 (nI i_23), st.2.1, st.2.2.1, st.2.2.2.1, st.2.2.2.2.1, st.2.2.2.2.2) (nI i_23))); ((16777216 : Int32), u_43)) else ((0 : Int32), (upd st.1 3 (nI i_23), st.2.1, st.2.2.1, st.2.2.2.1, st.2.2.2.2.1, st.2.2.2.2.2))) else (let u_48 := m_must (upd st.1 3 (nI i_23), st.2.1, st.2.2.1, st.2.2.2.1, st.2.2.2.2.1, st.2.2.2.2.2) (32 : Int32); (if (u_48.1 2) < (0 : Int32) then (if x_35 = (1 : Int32) then (let r_73 := (m_number u_48 (0 : Int64) (4194303 : Int64)).1; (let u_73 := (m_number u_48 (0 : Int64) (4194303 : Int64)).2; (let u_74 := m_comma u_73; (let r_75 := (m_operand u_74).1; (let u_75 := (m_operand u_74).2; (let x_76 := ((r_75 <<< ((25 : Int32) &&& 31)) ||| (16777216 : Int32)) ||| r_73; (let u_77 := (if (0 : Int32) ≤ (u_75.1 2) then u_75 else (if (u_75.1 1) ≤ (u_75.1 3) then u_75 else m_wrong u_75 (u_75.1 3))); (x_76, u_77)))))))) else (if x_35 = (4 : Int32) then (let r_66 := (m_number u_48 (-536870912 : Int64) (536870911 : Int64)).1; (let u_66 := (m_number u_48 (-536870912 : Int64) (536870911 : Int64)).2; (let x_67 := (1073741824 : Int32) ||| (r_66 &&& (1073741823 : Int32)); (let u_68 := (if (0 : Int32) ≤ (u_66.1 2) then u_66 else (if (u_66.1 1) ≤ (u_66.1 3) then u_66 else m_wrong u_66 (u_66.1 3))); (x_67, u_68))))) else (if x_35 = (5 : Int32) then (let r_60 := (m_branches u_48 x_36).1; (let u_60 := (m_branches u_48 x_36).2; (let u_61 := (if (0 : Int32) ≤ (u_60.1 2) then u_60 else (if (u_60.1 1) ≤ (u_60.1 3) then u_60 else m_wrong u_60 (u_60.1 3))); (r_60, u_61)))) else (let r_54 := (m_formed u_48 x_35 x_36).1; (let u_54 := (m_formed u_48 x_35 x_36).2; (let u_55 := (if (0 : Int32) ≤ (u_54.1 2) then u_54 else (if (u_54.1 1) ≤ (u_54.1 3) then u_54 else m_wrong u_54 (u_54.1 3))); (r_54, u_55))))))) else ((0 : Int32), u_48)))))))
def fl_D_assembled_76 (st : SD) : Nat → Int64 → Nat → Nat → Int32 × SD
  | 0, _, _, _ => (0, st)
  | n9 + 1, x_26, i_27, i_28 => (if (91 : Int32) ≤ (nI i_28) then fg_D_assembled_104 st x_26 i_27 i_28 else (if (lg_cmp (nmT (nI i_28).toNatClampNeg) x_26) = (0 : Int32) then fg_D_assembled_104 st x_26 i_27 i_28 else fl_D_assembled_76 st n9 x_26 i_27 (i_28 + 1)))
def fg_D_assembled_73 (st : SD) : Int64 → Nat → Int32 × SD := fun x_10 i_11 => fl_D_assembled_76 st 93 x_10 i_11 0
def fl_D_assembled_42 (st : SD) : Nat → Int64 → Nat → Int32 → Int32 × SD
  | 0, _, _, _ => (0, st)
  | n9 + 1, x_13, i_14, x_15 => (if x_15 < (0 : Int32) then fg_D_assembled_73 st x_13 i_14 else (if (9 : Int32) ≤ (nI i_14) then fg_D_assembled_73 st x_13 i_14 else (let x_19 := (zlshl x_13 (8 : Int32)) ||| ((st.2.1 x_15.toNatClampNeg).toInt64); fl_D_assembled_42 st n9 x_19 i_14 (x_15 + (-1 : Int32)))))
def fg_D_assembled_37 (st : SD) : Nat → Int32 × SD := fun i_1 => fl_D_assembled_42 st 42 (0 : Int64) i_1 ((nI i_1) - (1 : Int32))
def fl_D_assembled_4 (st : SD) : Nat → Nat → Int32 × SD
  | 0, _ => (0, st)
  | n9 + 1, i_3 => (if (st.1 1) ≤ (nI i_3) then fg_D_assembled_37 st i_3 else (let r_6 := m_in ((st.2.1 (nI i_3).toNatClampNeg).toInt64) (97 : Int64) (122 : Int64); (if r_6 = (0 : Int32) then fg_D_assembled_37 st i_3 else fl_D_assembled_4 st n9 (i_3 + 1))))
def m_assembled (st : SD) : Int32 × SD := fl_D_assembled_4 st 42 0
set_option maxHeartbeats 4000000 in
set_option maxRecDepth 100000 in
theorem mt_D_assembled (l : Launch) (D : va_G) (h : Nat → Nat) (c : Nat → ClassId) (sz : Nat) (st : SD) (hL : 0 ≤ (st.1 1).toInt ∧ (st.1 1).toInt ≤ 40) : Met l y_D_assembled w_D_assembled ({ frames := 6, cells := 0, slots := 0, locals := 141 }) (va_Pc [.ref (h 20)] (zw_pre D vwCl [(c 21, .long), (c 22, .int), (c 23, .int), (c 24, .int), (c 25, .int), (c 26, .int), (c 27, .int), (c 28, .int)] sz (wD h c st) (fun _ => True))) (va_Qi (fun r (u : SD) => r = (m_assembled st).1 ∧ u = (m_assembled st).2) (fun u t => zw_at D vwCl (va_A (wD h c st) sz) ((fun (u : SD) => wD h c u) u) t) (va_A (wD h c st) sz)) 0 0 (va_A (wD h c st) sz) := by
  refine zm (Qf := fun A => va_Qi (fun r (u : SD) => r = (m_assembled st).1 ∧ u = (m_assembled st).2) (fun u t => zw_at D vwCl A ((fun (u : SD) => wD h c u) u) t) A) (Zf := fun _ _ => True) (cc := c_D_assembled) (nL := 9) (ret := (some .int)) (by decide) rfl (Nat.le_of_ble_eq_true rfl) ?_
  intro p e s m below meth c9 A H locs ls hx hb hml hown hts hr hlocks hA hK hP hD hS hZ hl
  have hl : lv_has ls 9 [(0, .ref (h 20))] := hl
  have ht : ∀ w9 ∈ zT, w9.before _ s = true := fun w9 h9 => hts w9 (List.mem_cons_of_mem _ h9)
  refine lv_lconst (v := (0 : Int64)) hx hb d_D_assembled_0 (by decide) ?_
  refine lv_lstore_n (lv' := [(1, .long (0 : Int64)), (0, .ref (h 20))]) hx hb d_D_assembled_1 rfl hl (by decide) rfl (fun ls hl => ?_)
  refine lv_iconst (v := (0 : Int32)) hx hb d_D_assembled_2 (by decide) ?_
  refine lv_istore_n (lv' := [(3, .int (0 : Int32)), (1, .long (0 : Int64)), (0, .ref (h 20))]) hx hb d_D_assembled_3 rfl hl (by decide) rfl (fun ls hl => ?_)
  refine zcut (X := Nat) (G := fun v9 H locs ls => m_assembled st = fg_D_assembled_37 st v9 ∧ (v9 ≤ 40) ∧ va_P D vwCl (wD h c st) H ∧ va_D A (wD h c st) ∧ va_S A s.heap H locs ∧ lv_has ls 9 [(0, .ref (h 20)), (1, .long (0 : Int64)), (3, .int (nI v9))]) (fr := fun v9 ls => F0 m 37 ls []) (fun J_2 => ?_) (fun v9 H locs ls hG => ?_)
  · refine zloop (X := Nat) (G := fun n9 v9 H locs ls => m_assembled st = fl_D_assembled_4 st n9 v9 ∧ (v9 + n9 = 42 ∧ v9 ≤ 40) ∧ va_P D vwCl (wD h c st) H ∧ va_D A (wD h c st) ∧ va_S A s.heap H locs ∧ lv_has ls 9 [(0, .ref (h 20)), (1, .long (0 : Int64)), (3, .int (nI v9))]) (fr := fun v9 ls => F0 m 4 ls []) (n := 42) (v := 0) (fun n9 ih v9 H locs ls hG => ?_) (fun v9 H locs ls hG => ?_) ⟨(by simp only [m_assembled]), ⟨rfl, by omega⟩, hP, hD, hS, (lv_sub hl [2, 1, 0] rfl)⟩
    · obtain ⟨i_3, rfl⟩ : ∃ z, z = v9 := ⟨_, rfl⟩
      obtain ⟨hF_4, hI, hP, hD, hS, hl⟩ := hG
      refine lv_iload_n hx hb d_D_assembled_4 rfl (lv_at hl 2 rfl) ?_
      refine lv_aload_n hx hb d_D_assembled_5 rfl (lv_at hl 0 rfl) ?_
      refine va_get (D := D) (ci := 6) (v := .int (st.1 1)) (C := "WindowMachineModel") (T := T_D) (N := 31) hx hb ht zi_D hown hK hP 0 rfl rfl 4 (by decide) (ht _ zw_858) (fun _ h9 => h9) rfl d_D_assembled_6 ?_
      refine lv_icmp_ge (tgt := 37) hx hb d_D_assembled_9 (by decide) (fun c_5 => ?_) (fun c_5 => ?_)
      · exact J_2 i_3 _ _ _ ⟨by rw [hF_4]; simp only [fl_D_assembled_4, if_pos c_5], hI.2, hP, hD, hS, hl⟩
      refine lv_aload_n hx hb d_D_assembled_12 rfl (lv_at hl 0 rfl) ?_
      refine va_get (D := D) (ci := 6) (v := .ref (h 24)) (C := "WindowMachineModel") (T := T_D) (N := 31) hx hb ht zi_D hown hK hP 0 rfl rfl 7 (by decide) (ht _ zw_861) (fun _ h9 => h9) rfl d_D_assembled_13 ?_
      refine lv_iload_n hx hb d_D_assembled_16 rfl (lv_at hl 2 rfl) ?_
      refine va_iald hx hb hK hP 4 3 rfl rfl (as_1 hL hI.2 c_5) d_D_assembled_17 ?_
      refine lv_i2l (v := (st.2.1 (nI i_3).toNatClampNeg).toInt64) hx hb d_D_assembled_18 rfl ?_
      refine lv_ldc2 (v := (97 : Int64)) hx hb hown (ht _ zw_1112) d_D_assembled_19 ?_
      refine lv_ldc2 (v := (122 : Int64)) hx hb hown (ht _ zw_1113) d_D_assembled_22 ?_
      refine zc_i (w2 := fun _ => wD h c st) (va_runS (As := [.long ((st.2.1 (nI i_3).toNatClampNeg).toInt64), .long (97 : Int64), .long (122 : Int64)]) (rest := []) ⟨hx, hb, hml, hown, ht⟩ (mt_D_in l D H.size ((st.2.1 (nI i_3).toNatClampNeg).toInt64) (97 : Int64) (122 : Int64)) (cwS 3 ht (zgS zw_961 zw_962 zw_7 zw_963) rfl rfl rfl kd_D_in ⟨Nat.le_of_ble_eq_true rfl, Nat.le_of_ble_eq_true rfl⟩) ⟨zw_blind zw_tt, zw_go (hP.sub (ws' := []) [] rfl) (hD.sub (ws' := []) [] (by decide) rfl) (hK.sub (tys' := []) [] rfl) (fun _ _ _ => trivial)⟩ rfl rfl hl.1 rfl (lv_room (Nat.le_of_ble_eq_true rfl)) d_D_assembled_25 ⟨Nat.le_of_ble_eq_true rfl, Nat.le_of_ble_eq_true rfl⟩) hP hD hS hA [] [0, 1, 2, 3, 4, 5, 6, 7, 8] [0, 1, 2, 3, 4, 5, 6, 7, 8] rfl rfl (by decide) (by decide) (by decide) (fun _ => rfl) (fun r_6 _ H locs hw hP hD hS => ?_)
      have er_6 := hw
      refine lv_if_eq (tgt := 37) hx hb d_D_assembled_28 (by decide) (fun c_7 => ?_) (fun c_7 => ?_)
      · exact J_2 i_3 _ _ _ ⟨by rw [hF_4]; simp only [fl_D_assembled_4, ← er_6, if_neg c_5, if_pos c_7], hI.2, hP, hD, hS, hl⟩
      refine lv_iinc (v := (nI i_3) + (1 : Int32)) (lv' := [(3, .int ((nI i_3) + (1 : Int32))), (0, .ref (h 20)), (1, .long (0 : Int64))]) hx hb d_D_assembled_31 hl (k := 2) rfl rfl (by decide) rfl (fun ls hl => ?_)
      refine lv_goto (tgt := 4) hx hb d_D_assembled_34 (by decide) ?_
      have hl : lv_has ls 9 [(0, .ref (h 20)), (1, .long (0 : Int64)), (3, .int (nI (i_3 + 1)))] := by rw [← nI_1 i_3]; exact (lv_sub hl [1, 2, 0] rfl)
      exact ih (i_3 + 1) _ _ _ ⟨by rw [hF_4]; simp only [fl_D_assembled_4, ← er_6, if_neg c_5, if_neg c_7], ⟨by omega, as_0 hL hI.2 c_5⟩, hP, hD, hS, hl⟩
    · obtain ⟨i_3, rfl⟩ : ∃ z, z = v9 := ⟨_, rfl⟩
      obtain ⟨-, hI, -⟩ := hG
      exact (by omega)
  obtain ⟨i_1, rfl⟩ : ∃ z, z = v9 := ⟨_, rfl⟩
  obtain ⟨hF_8, hI_9, hP, hD, hS, hl⟩ := hG
  refine lv_iload_n hx hb d_D_assembled_37 rfl (lv_at hl 2 rfl) ?_
  refine lv_iconst (v := (1 : Int32)) hx hb d_D_assembled_38 (by decide) ?_
  refine lv_isub hx hb d_D_assembled_39 ?_
  refine lv_istore (lv' := [(4, .int ((nI i_1) - (1 : Int32))), (0, .ref (h 20)), (1, .long (0 : Int64)), (3, .int (nI i_1))]) hx hb d_D_assembled_40 hl (by decide) rfl (fun ls hl => ?_)
  refine zcut (X := Int64 × Nat) (G := fun v9 H locs ls => m_assembled st = fg_D_assembled_73 st v9.1 v9.2 ∧ (v9.2 ≤ 40) ∧ va_P D vwCl (wD h c st) H ∧ va_D A (wD h c st) ∧ va_S A s.heap H locs ∧ lv_has ls 9 [(0, .ref (h 20)), (1, .long v9.1), (3, .int (nI v9.2))]) (fr := fun v9 ls => F0 m 73 ls []) (fun J_12 => ?_) (fun v9 H locs ls hG => ?_)
  · refine zloop (X := Int64 × Nat × Int32) (G := fun n9 v9 H locs ls => m_assembled st = fl_D_assembled_42 st n9 v9.1 v9.2.1 v9.2.2 ∧ ((v9.2.2).toInt + 2 ≤ (n9 : Int) ∧ -1 ≤ (v9.2.2).toInt ∧ (v9.2.2).toInt ≤ 39 ∧ v9.2.1 ≤ 40) ∧ va_P D vwCl (wD h c st) H ∧ va_D A (wD h c st) ∧ va_S A s.heap H locs ∧ lv_has ls 9 [(0, .ref (h 20)), (1, .long v9.1), (3, .int (nI v9.2.1)), (4, .int v9.2.2)]) (fr := fun v9 ls => F0 m 42 ls []) (n := 42) (v := ((0 : Int64), i_1, (nI i_1) - (1 : Int32))) (fun n9 ih v9 H locs ls hG => ?_) (fun v9 H locs ls hG => ?_) ⟨(by rw [hF_8]; simp only [fg_D_assembled_37]), (as_i0 hI_9), hP, hD, hS, (lv_sub hl [1, 2, 3, 0] rfl)⟩
    · obtain ⟨x_13, i_14, x_15⟩ := v9
      obtain ⟨hF_16, hI, hP, hD, hS, hl⟩ := hG
      dsimp only at hF_16 hI hP hD hl
      refine lv_iload hx hb d_D_assembled_42 (lv_at hl 3 rfl) ?_
      refine lv_if_lt (tgt := 73) hx hb d_D_assembled_44 (by decide) (fun c_17 => ?_) (fun c_17 => ?_)
      · exact J_12 (x_13, i_14) _ _ _ ⟨by rw [hF_16]; simp only [fl_D_assembled_42, if_pos c_17], hI.2.2.2, hP, hD, hS, (lv_sub hl [0, 1, 2] rfl)⟩
      refine lv_iload_n hx hb d_D_assembled_47 rfl (lv_at hl 2 rfl) ?_
      refine lv_bipush (v := (9 : Int32)) hx hb d_D_assembled_48 (by decide) ?_
      refine lv_icmp_ge (tgt := 73) hx hb d_D_assembled_50 (by decide) (fun c_18 => ?_) (fun c_18 => ?_)
      · exact J_12 (x_13, i_14) _ _ _ ⟨by rw [hF_16]; simp only [fl_D_assembled_42, if_neg c_17, if_pos c_18], hI.2.2.2, hP, hD, hS, (lv_sub hl [0, 1, 2] rfl)⟩
      refine lv_lload_n hx hb d_D_assembled_53 rfl (lv_at hl 1 rfl) ?_
      refine lv_bipush (v := (8 : Int32)) hx hb d_D_assembled_54 (by decide) ?_
      refine lv_lshl (v := zlshl x_13 (8 : Int32)) hx hb d_D_assembled_56 rfl ?_
      refine lv_aload_n hx hb d_D_assembled_57 rfl (lv_at hl 0 rfl) ?_
      refine va_get (D := D) (ci := 6) (v := .ref (h 24)) (C := "WindowMachineModel") (T := T_D) (N := 31) hx hb ht zi_D hown hK hP 0 rfl rfl 7 (by decide) (ht _ zw_861) (fun _ h9 => h9) rfl d_D_assembled_58 ?_
      refine lv_iload hx hb d_D_assembled_61 (lv_at hl 3 rfl) ?_
      refine va_iald hx hb hK hP 4 3 rfl rfl (as_2 hI c_17) d_D_assembled_63 ?_
      refine lv_i2l (v := (st.2.1 x_15.toNatClampNeg).toInt64) hx hb d_D_assembled_64 rfl ?_
      refine lv_lor hx hb d_D_assembled_65 ?_
      refine lv_topl (fun x_19 ex_19 => ?_)
      refine lv_lstore_n (lv' := [(1, .long x_19), (0, .ref (h 20)), (3, .int (nI i_14)), (4, .int x_15)]) hx hb d_D_assembled_66 rfl hl (by decide) rfl (fun ls hl => ?_)
      refine lv_iinc (v := x_15 + (-1 : Int32)) (lv' := [(4, .int (x_15 + (-1 : Int32))), (1, .long x_19), (0, .ref (h 20)), (3, .int (nI i_14))]) hx hb d_D_assembled_67 hl (k := 3) rfl rfl (by decide) rfl (fun ls hl => ?_)
      refine lv_goto (tgt := 42) hx hb d_D_assembled_70 (by decide) ?_
      exact ih (x_19, i_14, x_15 + (-1 : Int32)) _ _ _ ⟨by rw [hF_16]; simp only [fl_D_assembled_42, ← ex_19, if_neg c_17, if_neg c_18], (as_b hI c_17), hP, hD, hS, (lv_sub hl [2, 1, 3, 0] rfl)⟩
    · obtain ⟨x_13, i_14, x_15⟩ := v9
      obtain ⟨-, hI, -⟩ := hG
      dsimp only at hI
      exact (by omega)
  obtain ⟨x_10, i_11⟩ := v9
  obtain ⟨hF_20, hI_21, hP, hD, hS, hl⟩ := hG
  dsimp only at hF_20 hI_21 hP hD hl
  refine lv_iconst (v := (0 : Int32)) hx hb d_D_assembled_73 (by decide) ?_
  refine lv_istore (lv' := [(4, .int (0 : Int32)), (0, .ref (h 20)), (1, .long x_10), (3, .int (nI i_11))]) hx hb d_D_assembled_74 hl (by decide) rfl (fun ls hl => ?_)
  refine zcut (X := Int64 × Nat × Nat) (G := fun v9 H locs ls => m_assembled st = fg_D_assembled_104 st v9.1 v9.2.1 v9.2.2 ∧ (v9.2.1 ≤ 40 ∧ v9.2.2 ≤ 91) ∧ va_P D vwCl (wD h c st) H ∧ va_D A (wD h c st) ∧ va_S A s.heap H locs ∧ lv_has ls 9 [(0, .ref (h 20)), (1, .long v9.1), (3, .int (nI v9.2.1)), (4, .int (nI v9.2.2))]) (fr := fun v9 ls => F0 m 104 ls []) (fun J_25 => ?_) (fun v9 H locs ls hG => ?_)
  · refine zloop (X := Int64 × Nat × Nat) (G := fun n9 v9 H locs ls => m_assembled st = fl_D_assembled_76 st n9 v9.1 v9.2.1 v9.2.2 ∧ (v9.2.2 + n9 = 93 ∧ v9.2.2 ≤ 91 ∧ v9.2.1 ≤ 40) ∧ va_P D vwCl (wD h c st) H ∧ va_D A (wD h c st) ∧ va_S A s.heap H locs ∧ lv_has ls 9 [(0, .ref (h 20)), (1, .long v9.1), (3, .int (nI v9.2.1)), (4, .int (nI v9.2.2))]) (fr := fun v9 ls => F0 m 76 ls []) (n := 93) (v := (x_10, i_11, 0)) (fun n9 ih v9 H locs ls hG => ?_) (fun v9 H locs ls hG => ?_) ⟨(by rw [hF_20]; simp only [fg_D_assembled_73]), ⟨rfl, by dsimp only; omega, hI_21⟩, hP, hD, hS, (lv_sub hl [1, 2, 3, 0] rfl)⟩
    · obtain ⟨x_26, i_27, i_28⟩ := v9
      obtain ⟨hF_29, hI, hP, hD, hS, hl⟩ := hG
      dsimp only at hF_29 hI hP hD hl
      refine lv_iload hx hb d_D_assembled_76 (lv_at hl 3 rfl) ?_
      refine lv_aload_n hx hb d_D_assembled_78 rfl (lv_at hl 0 rfl) ?_
      refine va_get (D := D) (ci := 6) (v := .ref (h 21)) (C := "WindowMachineModel") (T := T_D) (N := 31) hx hb ht zi_D hown hK hP 0 rfl rfl 0 (by decide) (ht _ zw_854) (fun _ h9 => h9) rfl d_D_assembled_79 ?_
      refine va_alen (v := (91 : Int32)) hx hb hK hP 1 0 rfl (ty := .long) rfl rfl d_D_assembled_82 ?_
      refine lv_icmp_ge (tgt := 104) hx hb d_D_assembled_83 (by decide) (fun c_30 => ?_) (fun c_30 => ?_)
      · exact J_25 (x_26, i_27, i_28) _ _ _ ⟨by rw [hF_29]; simp only [fl_D_assembled_76, if_pos c_30], ⟨hI.2.2, hI.2.1⟩, hP, hD, hS, hl⟩
      refine lv_aload_n hx hb d_D_assembled_86 rfl (lv_at hl 0 rfl) ?_
      refine va_get (D := D) (ci := 6) (v := .ref (h 21)) (C := "WindowMachineModel") (T := T_D) (N := 31) hx hb ht zi_D hown hK hP 0 rfl rfl 0 (by decide) (ht _ zw_854) (fun _ h9 => h9) rfl d_D_assembled_87 ?_
      refine lv_iload hx hb d_D_assembled_90 (lv_at hl 3 rfl) ?_
      refine va_lald hx hb hK hP 1 0 rfl rfl (vp_in_nI (znlt (N := 91) (by omega) c_30) (by decide)) d_D_assembled_92 ?_
      refine lv_lload_n hx hb d_D_assembled_93 rfl (lv_at hl 1 rfl) ?_
      refine W.lcmp hx hb d_D_assembled_94 ?_
      refine lv_if_eq (tgt := 104) hx hb d_D_assembled_95 (by decide) (fun c_31 => ?_) (fun c_31 => ?_)
      · exact J_25 (x_26, i_27, i_28) _ _ _ ⟨by rw [hF_29]; simp only [fl_D_assembled_76, if_neg c_30, if_pos c_31], ⟨hI.2.2, hI.2.1⟩, hP, hD, hS, hl⟩
      refine lv_iinc (v := (nI i_28) + (1 : Int32)) (lv' := [(4, .int ((nI i_28) + (1 : Int32))), (0, .ref (h 20)), (1, .long x_26), (3, .int (nI i_27))]) hx hb d_D_assembled_98 hl (k := 3) rfl rfl (by decide) rfl (fun ls hl => ?_)
      refine lv_goto (tgt := 76) hx hb d_D_assembled_101 (by decide) ?_
      have hl : lv_has ls 9 [(0, .ref (h 20)), (1, .long x_26), (3, .int (nI i_27)), (4, .int (nI (i_28 + 1)))] := by rw [← nI_1 i_28]; exact (lv_sub hl [1, 2, 3, 0] rfl)
      exact ih (x_26, i_27, i_28 + 1) _ _ _ ⟨by rw [hF_29]; simp only [fl_D_assembled_76, if_neg c_30, if_neg c_31], ⟨by dsimp only; omega, znlt (N := 91) (by omega) c_30, hI.2.2⟩, hP, hD, hS, hl⟩
    · obtain ⟨x_26, i_27, i_28⟩ := v9
      obtain ⟨-, hI, -⟩ := hG
      dsimp only at hI
      exact (by omega)
  obtain ⟨x_22, i_23, i_24⟩ := v9
  obtain ⟨hF_32, hI_33, hP, hD, hS, hl⟩ := hG
  dsimp only at hF_32 hI_33 hP hD hl
  refine lv_iload hx hb d_D_assembled_104 (lv_at hl 3 rfl) ?_
  refine lv_aload_n hx hb d_D_assembled_106 rfl (lv_at hl 0 rfl) ?_
  refine va_get (D := D) (ci := 6) (v := .ref (h 21)) (C := "WindowMachineModel") (T := T_D) (N := 31) hx hb ht zi_D hown hK hP 0 rfl rfl 0 (by decide) (ht _ zw_854) (fun _ h9 => h9) rfl d_D_assembled_107 ?_
  refine va_alen (v := (91 : Int32)) hx hb hK hP 1 0 rfl (ty := .long) rfl rfl d_D_assembled_110 ?_
  refine lv_icmp_ne (tgt := 121) hx hb d_D_assembled_111 (by decide) (fun c_34 => ?_) (fun c_34 => ?_)
  · refine lv_aload_n hx hb d_D_assembled_121 rfl (lv_at hl 0 rfl) ?_
    refine lv_iload_n hx hb d_D_assembled_122 rfl (lv_at hl 2 rfl) ?_
    refine va_put (D := D) (ci := 6) (v := .int (nI i_23)) (ty := .int) (C := "WindowMachineModel") (T := T_D) (N := 31) hx hb ht zi_D ty_D tyok_D nm_D hown hK hP hD hS 0 rfl rfl 6 (by decide) (ht _ zw_860) (fun _ h9 => h9) rfl (by decide +kernel) rfl rfl (Nat.le_of_ble_eq_true rfl) d_D_assembled_123 (fun H locs hP hD hS => ?_)
    have hP : va_P D vwCl (wD h c (upd st.1 3 (nI i_23), st.2.1, st.2.2.1, st.2.2.2.1, st.2.2.2.2.1, st.2.2.2.2.2)) H := hP
    have hD : va_D A (wD h c (upd st.1 3 (nI i_23), st.2.1, st.2.2.1, st.2.2.2.1, st.2.2.2.2.1, st.2.2.2.2.2)) := hD
    refine lv_aload_n hx hb d_D_assembled_126 rfl (lv_at hl 0 rfl) ?_
    refine va_get (D := D) (ci := 6) (v := .ref (h 22)) (C := "WindowMachineModel") (T := T_D) (N := 31) hx hb ht zi_D hown hK hP 0 rfl rfl 1 (by decide) (ht _ zw_855) (fun _ h9 => h9) rfl d_D_assembled_127 ?_
    refine lv_iload hx hb d_D_assembled_130 (lv_at hl 3 rfl) ?_
    refine va_iald hx hb hK hP 2 1 rfl rfl (as_3 hI_33 c_34) d_D_assembled_132 ?_
    refine lv_topi (fun x_35 ex_35 => ?_)
    refine lv_istore (lv' := [(5, .int x_35), (0, .ref (h 20)), (1, .long x_22), (3, .int (nI i_23)), (4, .int (nI i_24))]) hx hb d_D_assembled_133 hl (by decide) rfl (fun ls hl => ?_)
    refine lv_aload_n hx hb d_D_assembled_135 rfl (lv_at hl 1 rfl) ?_
    refine va_get (D := D) (ci := 6) (v := .ref (h 23)) (C := "WindowMachineModel") (T := T_D) (N := 31) hx hb ht zi_D hown hK hP 0 rfl rfl 2 (by decide) (ht _ zw_856) (fun _ h9 => h9) rfl d_D_assembled_136 ?_
    refine lv_iload hx hb d_D_assembled_139 (lv_at hl 4 rfl) ?_
    refine va_iald hx hb hK hP 3 2 rfl rfl (as_3 hI_33 c_34) d_D_assembled_141 ?_
    refine lv_topi (fun x_36 ex_36 => ?_)
    refine lv_istore (lv' := [(6, .int x_36), (5, .int x_35), (0, .ref (h 20)), (1, .long x_22), (3, .int (nI i_23)), (4, .int (nI i_24))]) hx hb d_D_assembled_142 hl (by decide) rfl (fun ls hl => ?_)
    refine lv_iload hx hb d_D_assembled_144 (lv_at hl 1 rfl) ?_
    refine lv_bipush (v := (7 : Int32)) hx hb d_D_assembled_146 (by decide) ?_
    refine lv_icmp_eq (tgt := 157) hx hb d_D_assembled_148 (by decide) (fun c_37 => ?_) (fun c_37 => ?_)
    · refine lv_aload_n hx hb d_D_assembled_157 rfl (lv_at hl 2 rfl) ?_
      refine va_get (D := D) (ci := 6) (v := .int (st.1 2)) (C := "WindowMachineModel") (T := T_D) (N := 31) hx hb ht zi_D hown hK hP 0 rfl rfl 5 (by decide) (ht _ zw_859) (fun _ h9 => h9) rfl d_D_assembled_158 ?_
      refine lv_if_lt (tgt := 166) hx hb d_D_assembled_161 (by decide) (fun c_38 => ?_) (fun c_38 => ?_)
      · refine lv_iload hx hb d_D_assembled_166 (lv_at hl 1 rfl) ?_
        refine lv_iconst (v := (1 : Int32)) hx hb d_D_assembled_168 (by decide) ?_
        refine lv_icmp_ne (tgt := 205) hx hb d_D_assembled_169 (by decide) (fun c_39 => ?_) (fun c_39 => absurd c_39 (fun z9 => absurd (c_37.symm.trans z9) (by decide)))
        refine lv_iload hx hb d_D_assembled_205 (lv_at hl 1 rfl) ?_
        refine lv_iconst (v := (4 : Int32)) hx hb d_D_assembled_207 (by decide) ?_
        refine lv_icmp_ne (tgt := 234) hx hb d_D_assembled_208 (by decide) (fun c_40 => ?_) (fun c_40 => absurd c_40 (fun z9 => absurd (c_37.symm.trans z9) (by decide)))
        refine lv_iload hx hb d_D_assembled_234 (lv_at hl 1 rfl) ?_
        refine lv_iconst (v := (5 : Int32)) hx hb d_D_assembled_236 (by decide) ?_
        refine lv_icmp_ne (tgt := 251) hx hb d_D_assembled_237 (by decide) (fun c_41 => ?_) (fun c_41 => absurd c_41 (fun z9 => absurd (c_37.symm.trans z9) (by decide)))
        refine lv_iload hx hb d_D_assembled_251 (lv_at hl 1 rfl) ?_
        refine lv_bipush (v := (7 : Int32)) hx hb d_D_assembled_253 (by decide) ?_
        refine lv_icmp_ne (tgt := 266) hx hb d_D_assembled_255 (by decide) (fun c_42 => absurd c_37 c_42) (fun c_42 => ?_)
        refine lv_ldcw (v := (16777216 : Int32)) hx hb hown (ht _ zw_1150) d_D_assembled_258 ?_
        refine lv_istore (lv' := [(7, .int (16777216 : Int32)), (6, .int x_36), (5, .int x_35), (0, .ref (h 20)), (1, .long x_22), (3, .int (nI i_23)), (4, .int (nI i_24))]) hx hb d_D_assembled_261 hl (by decide) rfl (fun ls hl => ?_)
        refine lv_goto (tgt := 276) hx hb d_D_assembled_263 (by decide) ?_
        refine lv_aload_n hx hb d_D_assembled_276 rfl (lv_at hl 3 rfl) ?_
        refine va_get (D := D) (ci := 6) (v := .int (st.1 2)) (C := "WindowMachineModel") (T := T_D) (N := 31) hx hb ht zi_D hown hK hP 0 rfl rfl 5 (by decide) (ht _ zw_859) (fun _ h9 => h9) rfl d_D_assembled_277 ?_
        refine zcut (X := SD) (G := fun v9 H locs ls => v9 = (if (0 : Int32) ≤ (st.1 2) then (upd st.1 3 (nI i_23), st.2.1, st.2.2.1, st.2.2.2.1, st.2.2.2.2.1, st.2.2.2.2.2) else (if (st.1 1) ≤ (nI i_23) then (upd st.1 3 (nI i_23), st.2.1, st.2.2.1, st.2.2.2.1, st.2.2.2.2.1, st.2.2.2.2.2) else m_wrong (upd st.1 3 (nI i_23), st.2.1, st.2.2.1, st.2.2.2.1, st.2.2.2.2.1, st.2.2.2.2.2) (nI i_23))) ∧ va_P D vwCl (wD h c v9) H ∧ va_D A (wD h c v9) ∧ va_S A s.heap H locs ∧ lv_has ls 9 [(0, .ref (h 20)), (1, .long x_22), (3, .int (nI i_23)), (4, .int (nI i_24)), (5, .int x_35), (6, .int x_36), (7, .int (16777216 : Int32))]) (fr := fun v9 ls => F0 m 302 ls []) (fun J_44 => ?_) (fun v9 H locs ls hG => ?_)
        · refine lv_if_ge (tgt := 302) hx hb d_D_assembled_280 (by decide) (fun c_45 => ?_) (fun c_45 => ?_)
          · exact J_44 (upd st.1 3 (nI i_23), st.2.1, st.2.2.1, st.2.2.2.1, st.2.2.2.2.1, st.2.2.2.2.2) _ _ _ ⟨by simp only [if_pos c_45], hP, hD, hS, (lv_sub hl [3, 4, 5, 6, 2, 1, 0] rfl)⟩
          refine lv_aload_n hx hb d_D_assembled_283 rfl (lv_at hl 3 rfl) ?_
          refine va_get (D := D) (ci := 6) (v := .int (nI i_23)) (C := "WindowMachineModel") (T := T_D) (N := 31) hx hb ht zi_D hown hK hP 0 rfl rfl 6 (by decide) (ht _ zw_860) (fun _ h9 => h9) rfl d_D_assembled_284 ?_
          refine lv_aload_n hx hb d_D_assembled_287 rfl (lv_at hl 3 rfl) ?_
          refine va_get (D := D) (ci := 6) (v := .int (st.1 1)) (C := "WindowMachineModel") (T := T_D) (N := 31) hx hb ht zi_D hown hK hP 0 rfl rfl 4 (by decide) (ht _ zw_858) (fun _ h9 => h9) rfl d_D_assembled_288 ?_
          refine lv_icmp_ge (tgt := 302) hx hb d_D_assembled_291 (by decide) (fun c_46 => ?_) (fun c_46 => ?_)
          · exact J_44 (upd st.1 3 (nI i_23), st.2.1, st.2.2.1, st.2.2.2.1, st.2.2.2.2.1, st.2.2.2.2.2) _ _ _ ⟨by simp only [if_neg c_45, if_pos c_46], hP, hD, hS, (lv_sub hl [3, 4, 5, 6, 2, 1, 0] rfl)⟩
          refine lv_aload_n hx hb d_D_assembled_294 rfl (lv_at hl 3 rfl) ?_
          refine lv_aload_n hx hb d_D_assembled_295 rfl (lv_at hl 3 rfl) ?_
          refine va_get (D := D) (ci := 6) (v := .int (nI i_23)) (C := "WindowMachineModel") (T := T_D) (N := 31) hx hb ht zi_D hown hK hP 0 rfl rfl 6 (by decide) (ht _ zw_860) (fun _ h9 => h9) rfl d_D_assembled_296 ?_
          refine zc_v (w2 := fun u9 => wD h c u9) (va_runV (As := [.int (nI i_23)]) (rest := []) ⟨hx, hb, hml, hown, ht⟩ (mt_D_wrong l D h c H.size (upd st.1 3 (nI i_23), st.2.1, st.2.2.1, st.2.2.2.1, st.2.2.2.2.1, st.2.2.2.2.2) (nI i_23)) (cwV 1 ht (zgV zw_1114 zw_1116 zs_75 zw_7 zw_1117) rfl rfl rfl kd_D_wrong ⟨Nat.le_of_ble_eq_true rfl, Nat.le_of_ble_eq_true rfl⟩) ⟨zw_blind zw_tt, va_recv (hK.sub (tys' := [(c 21, .long), (c 22, .int), (c 23, .int), (c 24, .int), (c 25, .int), (c 26, .int), (c 27, .int), (c 28, .int)]) [0, 1, 2, 3, 4, 5, 6, 7] rfl) (hP.sub (ws' := wD h c (upd st.1 3 (nI i_23), st.2.1, st.2.2.1, st.2.2.2.1, st.2.2.2.2.1, st.2.2.2.2.2)) [0, 1, 2, 3, 4, 5, 6, 7, 8] rfl) (ci := 6) (q0 := 0) rfl rfl, zw_go (hP.sub (ws' := wD h c (upd st.1 3 (nI i_23), st.2.1, st.2.2.1, st.2.2.2.1, st.2.2.2.2.1, st.2.2.2.2.2)) [0, 1, 2, 3, 4, 5, 6, 7, 8] rfl) (hD.sub (ws' := wD h c (upd st.1 3 (nI i_23), st.2.1, st.2.2.1, st.2.2.2.1, st.2.2.2.2.1, st.2.2.2.2.2)) [0, 1, 2, 3, 4, 5, 6, 7, 8] (by decide) rfl) (hK.sub (tys' := [(c 21, .long), (c 22, .int), (c 23, .int), (c 24, .int), (c 25, .int), (c 26, .int), (c 27, .int), (c 28, .int)]) [0, 1, 2, 3, 4, 5, 6, 7] rfl) (fun _ _ _ => trivial)⟩ rfl rfl hl.1 rfl (lv_room (Nat.le_of_ble_eq_true rfl)) d_D_assembled_299 ⟨Nat.le_of_ble_eq_true rfl, Nat.le_of_ble_eq_true rfl⟩) hP hD hS hA [0, 1, 2, 3, 4, 5, 6, 7, 8] [] [0, 1, 2, 3, 4, 5, 6, 7, 8] rfl rfl (by decide) (by decide) (by decide) (fun _ => rfl) (fun u_47 H locs hw hP hD hS => ?_)
          subst hw
          exact J_44 (m_wrong (upd st.1 3 (nI i_23), st.2.1, st.2.2.1, st.2.2.2.1, st.2.2.2.2.1, st.2.2.2.2.2) (nI i_23)) _ _ _ ⟨by simp only [if_neg c_45, if_neg c_46], hP, hD, hS, (lv_sub hl [3, 4, 5, 6, 2, 1, 0] rfl)⟩
        obtain ⟨u_43, rfl⟩ : ∃ z, z = v9 := ⟨_, rfl⟩
        obtain ⟨eu_43, hP, hD, hS, hl⟩ := hG
        have ok_43 : okL (40) u_43 := by rw [eu_43]; exact (okL_iteD (fun c_43 => (ol_at hL hI_33)) (fun c_43 => (okL_iteD (fun c_44 => (ol_at hL hI_33)) (fun c_44 => (ol_wrong (by omega) (ol_at hL hI_33))))))
        refine lv_iload hx hb d_D_assembled_302 (lv_at hl 6 rfl) ?_
        exact zl_i (u := u_43) hx hb hr hlocks hS hP hD (⟨by rw [hF_32]; simp only [fg_D_assembled_104, ← ex_35, ← ex_36, ← eu_43, if_neg c_34, if_pos c_37, if_pos c_38], by rw [hF_32]; simp only [fg_D_assembled_104, ← ex_35, ← ex_36, ← eu_43, if_neg c_34, if_pos c_37, if_pos c_38]⟩) d_D_assembled_304
      refine lv_iconst (v := (0 : Int32)) hx hb d_D_assembled_164 (by decide) ?_
      exact zl_i (u := (upd st.1 3 (nI i_23), st.2.1, st.2.2.1, st.2.2.2.1, st.2.2.2.2.1, st.2.2.2.2.2)) hx hb hr hlocks hS hP hD (⟨by rw [hF_32]; simp only [fg_D_assembled_104, ← ex_35, ← ex_36, if_neg c_34, if_pos c_37, if_neg c_38], by rw [hF_32]; simp only [fg_D_assembled_104, ← ex_35, ← ex_36, if_neg c_34, if_pos c_37, if_neg c_38]⟩) d_D_assembled_165
    refine lv_aload_n hx hb d_D_assembled_151 rfl (lv_at hl 2 rfl) ?_
    refine lv_bipush (v := (32 : Int32)) hx hb d_D_assembled_152 (by decide) ?_
    refine zc_v (w2 := fun u9 => wD h c u9) (va_runV (As := [.int (32 : Int32)]) (rest := []) ⟨hx, hb, hml, hown, ht⟩ (mt_D_must l D h c H.size (upd st.1 3 (nI i_23), st.2.1, st.2.2.1, st.2.2.2.1, st.2.2.2.2.1, st.2.2.2.2.2) (32 : Int32) (olh (ol_at hL hI_33))) (cwV 1 ht (zgV zw_1118 zw_1120 zs_76 zw_7 zw_1121) rfl rfl rfl kd_D_must ⟨Nat.le_of_ble_eq_true rfl, Nat.le_of_ble_eq_true rfl⟩) ⟨zw_blind zw_tt, va_recv (hK.sub (tys' := [(c 21, .long), (c 22, .int), (c 23, .int), (c 24, .int), (c 25, .int), (c 26, .int), (c 27, .int), (c 28, .int)]) [0, 1, 2, 3, 4, 5, 6, 7] rfl) (hP.sub (ws' := wD h c (upd st.1 3 (nI i_23), st.2.1, st.2.2.1, st.2.2.2.1, st.2.2.2.2.1, st.2.2.2.2.2)) [0, 1, 2, 3, 4, 5, 6, 7, 8] rfl) (ci := 6) (q0 := 0) rfl rfl, zw_go (hP.sub (ws' := wD h c (upd st.1 3 (nI i_23), st.2.1, st.2.2.1, st.2.2.2.1, st.2.2.2.2.1, st.2.2.2.2.2)) [0, 1, 2, 3, 4, 5, 6, 7, 8] rfl) (hD.sub (ws' := wD h c (upd st.1 3 (nI i_23), st.2.1, st.2.2.1, st.2.2.2.1, st.2.2.2.2.1, st.2.2.2.2.2)) [0, 1, 2, 3, 4, 5, 6, 7, 8] (by decide) rfl) (hK.sub (tys' := [(c 21, .long), (c 22, .int), (c 23, .int), (c 24, .int), (c 25, .int), (c 26, .int), (c 27, .int), (c 28, .int)]) [0, 1, 2, 3, 4, 5, 6, 7] rfl) (fun _ _ _ => trivial)⟩ rfl rfl hl.1 rfl (lv_room (Nat.le_of_ble_eq_true rfl)) d_D_assembled_154 ⟨Nat.le_of_ble_eq_true rfl, Nat.le_of_ble_eq_true rfl⟩) hP hD hS hA [0, 1, 2, 3, 4, 5, 6, 7, 8] [] [0, 1, 2, 3, 4, 5, 6, 7, 8] rfl rfl (by decide) (by decide) (by decide) (fun _ => rfl) (fun u_48 H locs hw hP hD hS => ?_)
    have eu_48 := hw
    have ok_48 : okL (41) u_48 := by rw [eu_48]; exact (ol_must (by omega) (ol_at hL hI_33))
    refine lv_aload_n hx hb d_D_assembled_157 rfl (lv_at hl 2 rfl) ?_
    refine va_get (D := D) (ci := 6) (v := .int (u_48.1 2)) (C := "WindowMachineModel") (T := T_D) (N := 31) hx hb ht zi_D hown hK hP 0 rfl rfl 5 (by decide) (ht _ zw_859) (fun _ h9 => h9) rfl d_D_assembled_158 ?_
    refine lv_if_lt (tgt := 166) hx hb d_D_assembled_161 (by decide) (fun c_49 => ?_) (fun c_49 => ?_)
    · refine lv_iload hx hb d_D_assembled_166 (lv_at hl 1 rfl) ?_
      refine lv_iconst (v := (1 : Int32)) hx hb d_D_assembled_168 (by decide) ?_
      refine lv_icmp_ne (tgt := 205) hx hb d_D_assembled_169 (by decide) (fun c_50 => ?_) (fun c_50 => ?_)
      · refine lv_iload hx hb d_D_assembled_205 (lv_at hl 1 rfl) ?_
        refine lv_iconst (v := (4 : Int32)) hx hb d_D_assembled_207 (by decide) ?_
        refine lv_icmp_ne (tgt := 234) hx hb d_D_assembled_208 (by decide) (fun c_51 => ?_) (fun c_51 => ?_)
        · refine lv_iload hx hb d_D_assembled_234 (lv_at hl 1 rfl) ?_
          refine lv_iconst (v := (5 : Int32)) hx hb d_D_assembled_236 (by decide) ?_
          refine lv_icmp_ne (tgt := 251) hx hb d_D_assembled_237 (by decide) (fun c_52 => ?_) (fun c_52 => ?_)
          · refine lv_iload hx hb d_D_assembled_251 (lv_at hl 1 rfl) ?_
            refine lv_bipush (v := (7 : Int32)) hx hb d_D_assembled_253 (by decide) ?_
            refine lv_icmp_ne (tgt := 266) hx hb d_D_assembled_255 (by decide) (fun c_53 => ?_) (fun c_53 => absurd c_53 c_37)
            refine lv_aload_n hx hb d_D_assembled_266 rfl (lv_at hl 2 rfl) ?_
            refine lv_iload hx hb d_D_assembled_267 (lv_at hl 1 rfl) ?_
            refine lv_iload hx hb d_D_assembled_269 (lv_at hl 0 rfl) ?_
            refine zc_i (w2 := fun u9 => wD h c u9) (va_runV (As := [.int x_35, .int x_36]) (rest := []) ⟨hx, hb, hml, hown, ht⟩ (mt_D_formed l D h c H.size u_48 x_35 x_36 _ (by omega) ok_48) (cwV 2 ht (zgV zw_1163 zw_1165 zs_84 zw_7 zw_1166) rfl rfl rfl kd_D_formed ⟨Nat.le_of_ble_eq_true rfl, Nat.le_of_ble_eq_true rfl⟩) ⟨zw_blind zw_tt, va_recv (hK.sub (tys' := [(c 21, .long), (c 22, .int), (c 23, .int), (c 24, .int), (c 25, .int), (c 26, .int), (c 27, .int), (c 28, .int)]) [0, 1, 2, 3, 4, 5, 6, 7] rfl) (hP.sub (ws' := wD h c u_48) [0, 1, 2, 3, 4, 5, 6, 7, 8] rfl) (ci := 6) (q0 := 0) rfl rfl, zw_go (hP.sub (ws' := wD h c u_48) [0, 1, 2, 3, 4, 5, 6, 7, 8] rfl) (hD.sub (ws' := wD h c u_48) [0, 1, 2, 3, 4, 5, 6, 7, 8] (by decide) rfl) (hK.sub (tys' := [(c 21, .long), (c 22, .int), (c 23, .int), (c 24, .int), (c 25, .int), (c 26, .int), (c 27, .int), (c 28, .int)]) [0, 1, 2, 3, 4, 5, 6, 7] rfl) (fun _ _ _ => trivial)⟩ rfl rfl hl.1 rfl (lv_room (Nat.le_of_ble_eq_true rfl)) d_D_assembled_271 ⟨Nat.le_of_ble_eq_true rfl, Nat.le_of_ble_eq_true rfl⟩) hP hD hS hA [0, 1, 2, 3, 4, 5, 6, 7, 8] [] [0, 1, 2, 3, 4, 5, 6, 7, 8] rfl rfl (by decide) (by decide) (by decide) (fun _ => rfl) (fun r_54 u_54 H locs hw hP hD hS => ?_)
            obtain ⟨er_54, eu_54⟩ := hw
            refine lv_istore (lv' := [(7, .int r_54), (6, .int x_36), (5, .int x_35), (0, .ref (h 20)), (1, .long x_22), (3, .int (nI i_23)), (4, .int (nI i_24))]) hx hb d_D_assembled_274 hl (by decide) rfl (fun ls hl => ?_)
            refine lv_aload_n hx hb d_D_assembled_276 rfl (lv_at hl 3 rfl) ?_
            refine va_get (D := D) (ci := 6) (v := .int (u_54.1 2)) (C := "WindowMachineModel") (T := T_D) (N := 31) hx hb ht zi_D hown hK hP 0 rfl rfl 5 (by decide) (ht _ zw_859) (fun _ h9 => h9) rfl d_D_assembled_277 ?_
            refine zcut (X := SD) (G := fun v9 H locs ls => v9 = (if (0 : Int32) ≤ (u_54.1 2) then u_54 else (if (u_54.1 1) ≤ (u_54.1 3) then u_54 else m_wrong u_54 (u_54.1 3))) ∧ va_P D vwCl (wD h c v9) H ∧ va_D A (wD h c v9) ∧ va_S A s.heap H locs ∧ lv_has ls 9 [(0, .ref (h 20)), (1, .long x_22), (3, .int (nI i_23)), (4, .int (nI i_24)), (5, .int x_35), (6, .int x_36), (7, .int r_54)]) (fr := fun v9 ls => F0 m 302 ls []) (fun J_56 => ?_) (fun v9 H locs ls hG => ?_)
            · refine lv_if_ge (tgt := 302) hx hb d_D_assembled_280 (by decide) (fun c_57 => ?_) (fun c_57 => ?_)
              · exact J_56 u_54 _ _ _ ⟨by simp only [if_pos c_57], hP, hD, hS, (lv_sub hl [3, 4, 5, 6, 2, 1, 0] rfl)⟩
              refine lv_aload_n hx hb d_D_assembled_283 rfl (lv_at hl 3 rfl) ?_
              refine va_get (D := D) (ci := 6) (v := .int (u_54.1 3)) (C := "WindowMachineModel") (T := T_D) (N := 31) hx hb ht zi_D hown hK hP 0 rfl rfl 6 (by decide) (ht _ zw_860) (fun _ h9 => h9) rfl d_D_assembled_284 ?_
              refine lv_aload_n hx hb d_D_assembled_287 rfl (lv_at hl 3 rfl) ?_
              refine va_get (D := D) (ci := 6) (v := .int (u_54.1 1)) (C := "WindowMachineModel") (T := T_D) (N := 31) hx hb ht zi_D hown hK hP 0 rfl rfl 4 (by decide) (ht _ zw_858) (fun _ h9 => h9) rfl d_D_assembled_288 ?_
              refine lv_icmp_ge (tgt := 302) hx hb d_D_assembled_291 (by decide) (fun c_58 => ?_) (fun c_58 => ?_)
              · exact J_56 u_54 _ _ _ ⟨by simp only [if_neg c_57, if_pos c_58], hP, hD, hS, (lv_sub hl [3, 4, 5, 6, 2, 1, 0] rfl)⟩
              refine lv_aload_n hx hb d_D_assembled_294 rfl (lv_at hl 3 rfl) ?_
              refine lv_aload_n hx hb d_D_assembled_295 rfl (lv_at hl 3 rfl) ?_
              refine va_get (D := D) (ci := 6) (v := .int (u_54.1 3)) (C := "WindowMachineModel") (T := T_D) (N := 31) hx hb ht zi_D hown hK hP 0 rfl rfl 6 (by decide) (ht _ zw_860) (fun _ h9 => h9) rfl d_D_assembled_296 ?_
              refine zc_v (w2 := fun u9 => wD h c u9) (va_runV (As := [.int (u_54.1 3)]) (rest := []) ⟨hx, hb, hml, hown, ht⟩ (mt_D_wrong l D h c H.size u_54 (u_54.1 3)) (cwV 1 ht (zgV zw_1114 zw_1116 zs_75 zw_7 zw_1117) rfl rfl rfl kd_D_wrong ⟨Nat.le_of_ble_eq_true rfl, Nat.le_of_ble_eq_true rfl⟩) ⟨zw_blind zw_tt, va_recv (hK.sub (tys' := [(c 21, .long), (c 22, .int), (c 23, .int), (c 24, .int), (c 25, .int), (c 26, .int), (c 27, .int), (c 28, .int)]) [0, 1, 2, 3, 4, 5, 6, 7] rfl) (hP.sub (ws' := wD h c u_54) [0, 1, 2, 3, 4, 5, 6, 7, 8] rfl) (ci := 6) (q0 := 0) rfl rfl, zw_go (hP.sub (ws' := wD h c u_54) [0, 1, 2, 3, 4, 5, 6, 7, 8] rfl) (hD.sub (ws' := wD h c u_54) [0, 1, 2, 3, 4, 5, 6, 7, 8] (by decide) rfl) (hK.sub (tys' := [(c 21, .long), (c 22, .int), (c 23, .int), (c 24, .int), (c 25, .int), (c 26, .int), (c 27, .int), (c 28, .int)]) [0, 1, 2, 3, 4, 5, 6, 7] rfl) (fun _ _ _ => trivial)⟩ rfl rfl hl.1 rfl (lv_room (Nat.le_of_ble_eq_true rfl)) d_D_assembled_299 ⟨Nat.le_of_ble_eq_true rfl, Nat.le_of_ble_eq_true rfl⟩) hP hD hS hA [0, 1, 2, 3, 4, 5, 6, 7, 8] [] [0, 1, 2, 3, 4, 5, 6, 7, 8] rfl rfl (by decide) (by decide) (by decide) (fun _ => rfl) (fun u_59 H locs hw hP hD hS => ?_)
              subst hw
              exact J_56 (m_wrong u_54 (u_54.1 3)) _ _ _ ⟨by simp only [if_neg c_57, if_neg c_58], hP, hD, hS, (lv_sub hl [3, 4, 5, 6, 2, 1, 0] rfl)⟩
            obtain ⟨u_55, rfl⟩ : ∃ z, z = v9 := ⟨_, rfl⟩
            obtain ⟨eu_55, hP, hD, hS, hl⟩ := hG
            refine lv_iload hx hb d_D_assembled_302 (lv_at hl 6 rfl) ?_
            exact zl_i (u := u_55) hx hb hr hlocks hS hP hD (⟨by rw [hF_32]; simp only [fg_D_assembled_104, ← ex_35, ← ex_36, ← eu_48, ← er_54, ← eu_54, ← eu_55, if_neg c_34, if_neg c_37, if_pos c_49, if_neg c_50, if_neg c_51, if_neg c_52], by rw [hF_32]; simp only [fg_D_assembled_104, ← ex_35, ← ex_36, ← eu_48, ← er_54, ← eu_54, ← eu_55, if_neg c_34, if_neg c_37, if_pos c_49, if_neg c_50, if_neg c_51, if_neg c_52]⟩) d_D_assembled_304
          refine lv_aload_n hx hb d_D_assembled_240 rfl (lv_at hl 2 rfl) ?_
          refine lv_iload hx hb d_D_assembled_241 (lv_at hl 0 rfl) ?_
          refine zc_i (w2 := fun u9 => wD h c u9) (va_runV (As := [.int x_36]) (rest := []) ⟨hx, hb, hml, hown, ht⟩ (mt_D_branches l D h c H.size u_48 x_36 _ (by omega) ok_48) (cwV 1 ht (zgV zw_1155 zw_1157 zs_83 zw_7 zw_1158) rfl rfl rfl kd_D_branches ⟨Nat.le_of_ble_eq_true rfl, Nat.le_of_ble_eq_true rfl⟩) ⟨zw_blind zw_tt, va_recv (hK.sub (tys' := [(c 21, .long), (c 22, .int), (c 23, .int), (c 24, .int), (c 25, .int), (c 26, .int), (c 27, .int), (c 28, .int)]) [0, 1, 2, 3, 4, 5, 6, 7] rfl) (hP.sub (ws' := wD h c u_48) [0, 1, 2, 3, 4, 5, 6, 7, 8] rfl) (ci := 6) (q0 := 0) rfl rfl, zw_go (hP.sub (ws' := wD h c u_48) [0, 1, 2, 3, 4, 5, 6, 7, 8] rfl) (hD.sub (ws' := wD h c u_48) [0, 1, 2, 3, 4, 5, 6, 7, 8] (by decide) rfl) (hK.sub (tys' := [(c 21, .long), (c 22, .int), (c 23, .int), (c 24, .int), (c 25, .int), (c 26, .int), (c 27, .int), (c 28, .int)]) [0, 1, 2, 3, 4, 5, 6, 7] rfl) (fun _ _ _ => trivial)⟩ rfl rfl hl.1 rfl (lv_room (Nat.le_of_ble_eq_true rfl)) d_D_assembled_243 ⟨Nat.le_of_ble_eq_true rfl, Nat.le_of_ble_eq_true rfl⟩) hP hD hS hA [0, 1, 2, 3, 4, 5, 6, 7, 8] [] [0, 1, 2, 3, 4, 5, 6, 7, 8] rfl rfl (by decide) (by decide) (by decide) (fun _ => rfl) (fun r_60 u_60 H locs hw hP hD hS => ?_)
          obtain ⟨er_60, eu_60⟩ := hw
          refine lv_istore (lv' := [(7, .int r_60), (6, .int x_36), (5, .int x_35), (0, .ref (h 20)), (1, .long x_22), (3, .int (nI i_23)), (4, .int (nI i_24))]) hx hb d_D_assembled_246 hl (by decide) rfl (fun ls hl => ?_)
          refine lv_goto (tgt := 276) hx hb d_D_assembled_248 (by decide) ?_
          refine lv_aload_n hx hb d_D_assembled_276 rfl (lv_at hl 3 rfl) ?_
          refine va_get (D := D) (ci := 6) (v := .int (u_60.1 2)) (C := "WindowMachineModel") (T := T_D) (N := 31) hx hb ht zi_D hown hK hP 0 rfl rfl 5 (by decide) (ht _ zw_859) (fun _ h9 => h9) rfl d_D_assembled_277 ?_
          refine zcut (X := SD) (G := fun v9 H locs ls => v9 = (if (0 : Int32) ≤ (u_60.1 2) then u_60 else (if (u_60.1 1) ≤ (u_60.1 3) then u_60 else m_wrong u_60 (u_60.1 3))) ∧ va_P D vwCl (wD h c v9) H ∧ va_D A (wD h c v9) ∧ va_S A s.heap H locs ∧ lv_has ls 9 [(0, .ref (h 20)), (1, .long x_22), (3, .int (nI i_23)), (4, .int (nI i_24)), (5, .int x_35), (6, .int x_36), (7, .int r_60)]) (fr := fun v9 ls => F0 m 302 ls []) (fun J_62 => ?_) (fun v9 H locs ls hG => ?_)
          · refine lv_if_ge (tgt := 302) hx hb d_D_assembled_280 (by decide) (fun c_63 => ?_) (fun c_63 => ?_)
            · exact J_62 u_60 _ _ _ ⟨by simp only [if_pos c_63], hP, hD, hS, (lv_sub hl [3, 4, 5, 6, 2, 1, 0] rfl)⟩
            refine lv_aload_n hx hb d_D_assembled_283 rfl (lv_at hl 3 rfl) ?_
            refine va_get (D := D) (ci := 6) (v := .int (u_60.1 3)) (C := "WindowMachineModel") (T := T_D) (N := 31) hx hb ht zi_D hown hK hP 0 rfl rfl 6 (by decide) (ht _ zw_860) (fun _ h9 => h9) rfl d_D_assembled_284 ?_
            refine lv_aload_n hx hb d_D_assembled_287 rfl (lv_at hl 3 rfl) ?_
            refine va_get (D := D) (ci := 6) (v := .int (u_60.1 1)) (C := "WindowMachineModel") (T := T_D) (N := 31) hx hb ht zi_D hown hK hP 0 rfl rfl 4 (by decide) (ht _ zw_858) (fun _ h9 => h9) rfl d_D_assembled_288 ?_
            refine lv_icmp_ge (tgt := 302) hx hb d_D_assembled_291 (by decide) (fun c_64 => ?_) (fun c_64 => ?_)
            · exact J_62 u_60 _ _ _ ⟨by simp only [if_neg c_63, if_pos c_64], hP, hD, hS, (lv_sub hl [3, 4, 5, 6, 2, 1, 0] rfl)⟩
            refine lv_aload_n hx hb d_D_assembled_294 rfl (lv_at hl 3 rfl) ?_
            refine lv_aload_n hx hb d_D_assembled_295 rfl (lv_at hl 3 rfl) ?_
            refine va_get (D := D) (ci := 6) (v := .int (u_60.1 3)) (C := "WindowMachineModel") (T := T_D) (N := 31) hx hb ht zi_D hown hK hP 0 rfl rfl 6 (by decide) (ht _ zw_860) (fun _ h9 => h9) rfl d_D_assembled_296 ?_
            refine zc_v (w2 := fun u9 => wD h c u9) (va_runV (As := [.int (u_60.1 3)]) (rest := []) ⟨hx, hb, hml, hown, ht⟩ (mt_D_wrong l D h c H.size u_60 (u_60.1 3)) (cwV 1 ht (zgV zw_1114 zw_1116 zs_75 zw_7 zw_1117) rfl rfl rfl kd_D_wrong ⟨Nat.le_of_ble_eq_true rfl, Nat.le_of_ble_eq_true rfl⟩) ⟨zw_blind zw_tt, va_recv (hK.sub (tys' := [(c 21, .long), (c 22, .int), (c 23, .int), (c 24, .int), (c 25, .int), (c 26, .int), (c 27, .int), (c 28, .int)]) [0, 1, 2, 3, 4, 5, 6, 7] rfl) (hP.sub (ws' := wD h c u_60) [0, 1, 2, 3, 4, 5, 6, 7, 8] rfl) (ci := 6) (q0 := 0) rfl rfl, zw_go (hP.sub (ws' := wD h c u_60) [0, 1, 2, 3, 4, 5, 6, 7, 8] rfl) (hD.sub (ws' := wD h c u_60) [0, 1, 2, 3, 4, 5, 6, 7, 8] (by decide) rfl) (hK.sub (tys' := [(c 21, .long), (c 22, .int), (c 23, .int), (c 24, .int), (c 25, .int), (c 26, .int), (c 27, .int), (c 28, .int)]) [0, 1, 2, 3, 4, 5, 6, 7] rfl) (fun _ _ _ => trivial)⟩ rfl rfl hl.1 rfl (lv_room (Nat.le_of_ble_eq_true rfl)) d_D_assembled_299 ⟨Nat.le_of_ble_eq_true rfl, Nat.le_of_ble_eq_true rfl⟩) hP hD hS hA [0, 1, 2, 3, 4, 5, 6, 7, 8] [] [0, 1, 2, 3, 4, 5, 6, 7, 8] rfl rfl (by decide) (by decide) (by decide) (fun _ => rfl) (fun u_65 H locs hw hP hD hS => ?_)
            subst hw
            exact J_62 (m_wrong u_60 (u_60.1 3)) _ _ _ ⟨by simp only [if_neg c_63, if_neg c_64], hP, hD, hS, (lv_sub hl [3, 4, 5, 6, 2, 1, 0] rfl)⟩
          obtain ⟨u_61, rfl⟩ : ∃ z, z = v9 := ⟨_, rfl⟩
          obtain ⟨eu_61, hP, hD, hS, hl⟩ := hG
          refine lv_iload hx hb d_D_assembled_302 (lv_at hl 6 rfl) ?_
          exact zl_i (u := u_61) hx hb hr hlocks hS hP hD (⟨by rw [hF_32]; simp only [fg_D_assembled_104, ← ex_35, ← ex_36, ← eu_48, ← er_60, ← eu_60, ← eu_61, if_neg c_34, if_neg c_37, if_pos c_49, if_neg c_50, if_neg c_51, if_pos c_52], by rw [hF_32]; simp only [fg_D_assembled_104, ← ex_35, ← ex_36, ← eu_48, ← er_60, ← eu_60, ← eu_61, if_neg c_34, if_neg c_37, if_pos c_49, if_neg c_50, if_neg c_51, if_pos c_52]⟩) d_D_assembled_304
        refine lv_ldcw (v := (1073741824 : Int32)) hx hb hown (ht _ zw_1151) d_D_assembled_211 ?_
        refine lv_aload_n hx hb d_D_assembled_214 rfl (lv_at hl 2 rfl) ?_
        refine lv_ldc2 (v := (-536870912 : Int64)) hx hb hown (ht _ zw_1152) d_D_assembled_215 ?_
        refine lv_ldc2 (v := (536870911 : Int64)) hx hb hown (ht _ zw_1153) d_D_assembled_218 ?_
        refine zc_i (w2 := fun u9 => wD h c u9) (va_runV (As := [.long (-536870912 : Int64), .long (536870911 : Int64)]) (rest := [.int (1073741824 : Int32)]) ⟨hx, hb, hml, hown, ht⟩ (mt_D_number l D h c H.size u_48 (-536870912 : Int64) (536870911 : Int64) _ (by omega) ok_48) (cwV 2 ht (zgV zw_1127 zw_1129 zs_78 zw_7 zw_1130) rfl rfl rfl kd_D_number ⟨Nat.le_of_ble_eq_true rfl, Nat.le_of_ble_eq_true rfl⟩) ⟨zw_blind zw_tt, va_recv (hK.sub (tys' := [(c 21, .long), (c 22, .int), (c 23, .int), (c 24, .int), (c 25, .int), (c 26, .int), (c 27, .int), (c 28, .int)]) [0, 1, 2, 3, 4, 5, 6, 7] rfl) (hP.sub (ws' := wD h c u_48) [0, 1, 2, 3, 4, 5, 6, 7, 8] rfl) (ci := 6) (q0 := 0) rfl rfl, zw_go (hP.sub (ws' := wD h c u_48) [0, 1, 2, 3, 4, 5, 6, 7, 8] rfl) (hD.sub (ws' := wD h c u_48) [0, 1, 2, 3, 4, 5, 6, 7, 8] (by decide) rfl) (hK.sub (tys' := [(c 21, .long), (c 22, .int), (c 23, .int), (c 24, .int), (c 25, .int), (c 26, .int), (c 27, .int), (c 28, .int)]) [0, 1, 2, 3, 4, 5, 6, 7] rfl) (fun _ _ _ => trivial)⟩ rfl rfl hl.1 rfl (lv_room (Nat.le_of_ble_eq_true rfl)) d_D_assembled_221 ⟨Nat.le_of_ble_eq_true rfl, Nat.le_of_ble_eq_true rfl⟩) hP hD hS hA [0, 1, 2, 3, 4, 5, 6, 7, 8] [] [0, 1, 2, 3, 4, 5, 6, 7, 8] rfl rfl (by decide) (by decide) (by decide) (fun _ => rfl) (fun r_66 u_66 H locs hw hP hD hS => ?_)
        obtain ⟨er_66, eu_66⟩ := hw
        have ok_66 : okL (54) u_66 := by rw [eu_66]; exact (ol_number (by omega) ok_48)
        refine lv_ldcw (v := (1073741823 : Int32)) hx hb hown (ht _ zw_1154) d_D_assembled_224 ?_
        refine lv_iand hx hb d_D_assembled_227 ?_
        refine lv_ior hx hb d_D_assembled_228 ?_
        refine lv_topi (fun x_67 ex_67 => ?_)
        refine lv_istore (lv' := [(7, .int x_67), (6, .int x_36), (5, .int x_35), (0, .ref (h 20)), (1, .long x_22), (3, .int (nI i_23)), (4, .int (nI i_24))]) hx hb d_D_assembled_229 hl (by decide) rfl (fun ls hl => ?_)
        refine lv_goto (tgt := 276) hx hb d_D_assembled_231 (by decide) ?_
        refine lv_aload_n hx hb d_D_assembled_276 rfl (lv_at hl 3 rfl) ?_
        refine va_get (D := D) (ci := 6) (v := .int (u_66.1 2)) (C := "WindowMachineModel") (T := T_D) (N := 31) hx hb ht zi_D hown hK hP 0 rfl rfl 5 (by decide) (ht _ zw_859) (fun _ h9 => h9) rfl d_D_assembled_277 ?_
        refine zcut (X := SD) (G := fun v9 H locs ls => v9 = (if (0 : Int32) ≤ (u_66.1 2) then u_66 else (if (u_66.1 1) ≤ (u_66.1 3) then u_66 else m_wrong u_66 (u_66.1 3))) ∧ va_P D vwCl (wD h c v9) H ∧ va_D A (wD h c v9) ∧ va_S A s.heap H locs ∧ lv_has ls 9 [(0, .ref (h 20)), (1, .long x_22), (3, .int (nI i_23)), (4, .int (nI i_24)), (5, .int x_35), (6, .int x_36), (7, .int x_67)]) (fr := fun v9 ls => F0 m 302 ls []) (fun J_69 => ?_) (fun v9 H locs ls hG => ?_)
        · refine lv_if_ge (tgt := 302) hx hb d_D_assembled_280 (by decide) (fun c_70 => ?_) (fun c_70 => ?_)
          · exact J_69 u_66 _ _ _ ⟨by simp only [if_pos c_70], hP, hD, hS, (lv_sub hl [3, 4, 5, 6, 2, 1, 0] rfl)⟩
          refine lv_aload_n hx hb d_D_assembled_283 rfl (lv_at hl 3 rfl) ?_
          refine va_get (D := D) (ci := 6) (v := .int (u_66.1 3)) (C := "WindowMachineModel") (T := T_D) (N := 31) hx hb ht zi_D hown hK hP 0 rfl rfl 6 (by decide) (ht _ zw_860) (fun _ h9 => h9) rfl d_D_assembled_284 ?_
          refine lv_aload_n hx hb d_D_assembled_287 rfl (lv_at hl 3 rfl) ?_
          refine va_get (D := D) (ci := 6) (v := .int (u_66.1 1)) (C := "WindowMachineModel") (T := T_D) (N := 31) hx hb ht zi_D hown hK hP 0 rfl rfl 4 (by decide) (ht _ zw_858) (fun _ h9 => h9) rfl d_D_assembled_288 ?_
          refine lv_icmp_ge (tgt := 302) hx hb d_D_assembled_291 (by decide) (fun c_71 => ?_) (fun c_71 => ?_)
          · exact J_69 u_66 _ _ _ ⟨by simp only [if_neg c_70, if_pos c_71], hP, hD, hS, (lv_sub hl [3, 4, 5, 6, 2, 1, 0] rfl)⟩
          refine lv_aload_n hx hb d_D_assembled_294 rfl (lv_at hl 3 rfl) ?_
          refine lv_aload_n hx hb d_D_assembled_295 rfl (lv_at hl 3 rfl) ?_
          refine va_get (D := D) (ci := 6) (v := .int (u_66.1 3)) (C := "WindowMachineModel") (T := T_D) (N := 31) hx hb ht zi_D hown hK hP 0 rfl rfl 6 (by decide) (ht _ zw_860) (fun _ h9 => h9) rfl d_D_assembled_296 ?_
          refine zc_v (w2 := fun u9 => wD h c u9) (va_runV (As := [.int (u_66.1 3)]) (rest := []) ⟨hx, hb, hml, hown, ht⟩ (mt_D_wrong l D h c H.size u_66 (u_66.1 3)) (cwV 1 ht (zgV zw_1114 zw_1116 zs_75 zw_7 zw_1117) rfl rfl rfl kd_D_wrong ⟨Nat.le_of_ble_eq_true rfl, Nat.le_of_ble_eq_true rfl⟩) ⟨zw_blind zw_tt, va_recv (hK.sub (tys' := [(c 21, .long), (c 22, .int), (c 23, .int), (c 24, .int), (c 25, .int), (c 26, .int), (c 27, .int), (c 28, .int)]) [0, 1, 2, 3, 4, 5, 6, 7] rfl) (hP.sub (ws' := wD h c u_66) [0, 1, 2, 3, 4, 5, 6, 7, 8] rfl) (ci := 6) (q0 := 0) rfl rfl, zw_go (hP.sub (ws' := wD h c u_66) [0, 1, 2, 3, 4, 5, 6, 7, 8] rfl) (hD.sub (ws' := wD h c u_66) [0, 1, 2, 3, 4, 5, 6, 7, 8] (by decide) rfl) (hK.sub (tys' := [(c 21, .long), (c 22, .int), (c 23, .int), (c 24, .int), (c 25, .int), (c 26, .int), (c 27, .int), (c 28, .int)]) [0, 1, 2, 3, 4, 5, 6, 7] rfl) (fun _ _ _ => trivial)⟩ rfl rfl hl.1 rfl (lv_room (Nat.le_of_ble_eq_true rfl)) d_D_assembled_299 ⟨Nat.le_of_ble_eq_true rfl, Nat.le_of_ble_eq_true rfl⟩) hP hD hS hA [0, 1, 2, 3, 4, 5, 6, 7, 8] [] [0, 1, 2, 3, 4, 5, 6, 7, 8] rfl rfl (by decide) (by decide) (by decide) (fun _ => rfl) (fun u_72 H locs hw hP hD hS => ?_)
          subst hw
          exact J_69 (m_wrong u_66 (u_66.1 3)) _ _ _ ⟨by simp only [if_neg c_70, if_neg c_71], hP, hD, hS, (lv_sub hl [3, 4, 5, 6, 2, 1, 0] rfl)⟩
        obtain ⟨u_68, rfl⟩ : ∃ z, z = v9 := ⟨_, rfl⟩
        obtain ⟨eu_68, hP, hD, hS, hl⟩ := hG
        have ok_68 : okL (54) u_68 := by rw [eu_68]; exact (okL_iteD (fun c_68 => ok_66) (fun c_68 => (okL_iteD (fun c_69 => ok_66) (fun c_69 => (ol_wrong (by omega) ok_66)))))
        refine lv_iload hx hb d_D_assembled_302 (lv_at hl 6 rfl) ?_
        exact zl_i (u := u_68) hx hb hr hlocks hS hP hD (⟨by rw [hF_32]; simp only [fg_D_assembled_104, ← ex_35, ← ex_36, ← eu_48, ← er_66, ← eu_66, ← ex_67, ← eu_68, if_neg c_34, if_neg c_37, if_pos c_49, if_neg c_50, if_pos c_51], by rw [hF_32]; simp only [fg_D_assembled_104, ← ex_35, ← ex_36, ← eu_48, ← er_66, ← eu_66, ← ex_67, ← eu_68, if_neg c_34, if_neg c_37, if_pos c_49, if_neg c_50, if_pos c_51]⟩) d_D_assembled_304
      refine lv_aload_n hx hb d_D_assembled_172 rfl (lv_at hl 2 rfl) ?_
      refine lv_lconst (v := (0 : Int64)) hx hb d_D_assembled_173 (by decide) ?_
      refine lv_ldc2 (v := (4194303 : Int64)) hx hb hown (ht _ zw_1126) d_D_assembled_174 ?_
      refine zc_i (w2 := fun u9 => wD h c u9) (va_runV (As := [.long (0 : Int64), .long (4194303 : Int64)]) (rest := []) ⟨hx, hb, hml, hown, ht⟩ (mt_D_number l D h c H.size u_48 (0 : Int64) (4194303 : Int64) _ (by omega) ok_48) (cwV 2 ht (zgV zw_1127 zw_1129 zs_78 zw_7 zw_1130) rfl rfl rfl kd_D_number ⟨Nat.le_of_ble_eq_true rfl, Nat.le_of_ble_eq_true rfl⟩) ⟨zw_blind zw_tt, va_recv (hK.sub (tys' := [(c 21, .long), (c 22, .int), (c 23, .int), (c 24, .int), (c 25, .int), (c 26, .int), (c 27, .int), (c 28, .int)]) [0, 1, 2, 3, 4, 5, 6, 7] rfl) (hP.sub (ws' := wD h c u_48) [0, 1, 2, 3, 4, 5, 6, 7, 8] rfl) (ci := 6) (q0 := 0) rfl rfl, zw_go (hP.sub (ws' := wD h c u_48) [0, 1, 2, 3, 4, 5, 6, 7, 8] rfl) (hD.sub (ws' := wD h c u_48) [0, 1, 2, 3, 4, 5, 6, 7, 8] (by decide) rfl) (hK.sub (tys' := [(c 21, .long), (c 22, .int), (c 23, .int), (c 24, .int), (c 25, .int), (c 26, .int), (c 27, .int), (c 28, .int)]) [0, 1, 2, 3, 4, 5, 6, 7] rfl) (fun _ _ _ => trivial)⟩ rfl rfl hl.1 rfl (lv_room (Nat.le_of_ble_eq_true rfl)) d_D_assembled_177 ⟨Nat.le_of_ble_eq_true rfl, Nat.le_of_ble_eq_true rfl⟩) hP hD hS hA [0, 1, 2, 3, 4, 5, 6, 7, 8] [] [0, 1, 2, 3, 4, 5, 6, 7, 8] rfl rfl (by decide) (by decide) (by decide) (fun _ => rfl) (fun r_73 u_73 H locs hw hP hD hS => ?_)
      obtain ⟨er_73, eu_73⟩ := hw
      have ok_73 : okL (54) u_73 := by rw [eu_73]; exact (ol_number (by omega) ok_48)
      refine lv_istore (lv' := [(8, .int r_73), (6, .int x_36), (5, .int x_35), (0, .ref (h 20)), (1, .long x_22), (3, .int (nI i_23)), (4, .int (nI i_24))]) hx hb d_D_assembled_180 hl (by decide) rfl (fun ls hl => ?_)
      refine lv_aload_n hx hb d_D_assembled_182 rfl (lv_at hl 3 rfl) ?_
      refine zc_v (w2 := fun u9 => wD h c u9) (va_runV (As := []) (rest := []) ⟨hx, hb, hml, hown, ht⟩ (mt_D_comma l D h c H.size u_73 _ (by omega) ok_73) (cwV 0 ht (zgV zw_1138 zw_1140 zs_80 zw_7 zw_1141) rfl rfl rfl kd_D_comma ⟨Nat.le_of_ble_eq_true rfl, Nat.le_of_ble_eq_true rfl⟩) ⟨zw_blind zw_tt, va_recv (hK.sub (tys' := [(c 21, .long), (c 22, .int), (c 23, .int), (c 24, .int), (c 25, .int), (c 26, .int), (c 27, .int), (c 28, .int)]) [0, 1, 2, 3, 4, 5, 6, 7] rfl) (hP.sub (ws' := wD h c u_73) [0, 1, 2, 3, 4, 5, 6, 7, 8] rfl) (ci := 6) (q0 := 0) rfl rfl, zw_go (hP.sub (ws' := wD h c u_73) [0, 1, 2, 3, 4, 5, 6, 7, 8] rfl) (hD.sub (ws' := wD h c u_73) [0, 1, 2, 3, 4, 5, 6, 7, 8] (by decide) rfl) (hK.sub (tys' := [(c 21, .long), (c 22, .int), (c 23, .int), (c 24, .int), (c 25, .int), (c 26, .int), (c 27, .int), (c 28, .int)]) [0, 1, 2, 3, 4, 5, 6, 7] rfl) (fun _ _ _ => trivial)⟩ rfl rfl hl.1 rfl (lv_room (Nat.le_of_ble_eq_true rfl)) d_D_assembled_183 ⟨Nat.le_of_ble_eq_true rfl, Nat.le_of_ble_eq_true rfl⟩) hP hD hS hA [0, 1, 2, 3, 4, 5, 6, 7, 8] [] [0, 1, 2, 3, 4, 5, 6, 7, 8] rfl rfl (by decide) (by decide) (by decide) (fun _ => rfl) (fun u_74 H locs hw hP hD hS => ?_)
      have eu_74 := hw
      have ok_74 : okL (55) u_74 := by rw [eu_74]; exact (ol_comma (by omega) ok_73)
      refine lv_aload_n hx hb d_D_assembled_186 rfl (lv_at hl 3 rfl) ?_
      refine zc_i (w2 := fun u9 => wD h c u9) (va_runV (As := []) (rest := []) ⟨hx, hb, hml, hown, ht⟩ (mt_D_operand l D h c H.size u_74 _ (by omega) ok_74) (cwV 0 ht (zgV zw_1142 zw_1144 zs_81 zw_7 zw_1145) rfl rfl rfl kd_D_operand ⟨Nat.le_of_ble_eq_true rfl, Nat.le_of_ble_eq_true rfl⟩) ⟨zw_blind zw_tt, va_recv (hK.sub (tys' := [(c 21, .long), (c 22, .int), (c 23, .int), (c 24, .int), (c 25, .int), (c 26, .int), (c 27, .int), (c 28, .int)]) [0, 1, 2, 3, 4, 5, 6, 7] rfl) (hP.sub (ws' := wD h c u_74) [0, 1, 2, 3, 4, 5, 6, 7, 8] rfl) (ci := 6) (q0 := 0) rfl rfl, zw_go (hP.sub (ws' := wD h c u_74) [0, 1, 2, 3, 4, 5, 6, 7, 8] rfl) (hD.sub (ws' := wD h c u_74) [0, 1, 2, 3, 4, 5, 6, 7, 8] (by decide) rfl) (hK.sub (tys' := [(c 21, .long), (c 22, .int), (c 23, .int), (c 24, .int), (c 25, .int), (c 26, .int), (c 27, .int), (c 28, .int)]) [0, 1, 2, 3, 4, 5, 6, 7] rfl) (fun _ _ _ => trivial)⟩ rfl rfl hl.1 rfl (lv_room (Nat.le_of_ble_eq_true rfl)) d_D_assembled_187 ⟨Nat.le_of_ble_eq_true rfl, Nat.le_of_ble_eq_true rfl⟩) hP hD hS hA [0, 1, 2, 3, 4, 5, 6, 7, 8] [] [0, 1, 2, 3, 4, 5, 6, 7, 8] rfl rfl (by decide) (by decide) (by decide) (fun _ => rfl) (fun r_75 u_75 H locs hw hP hD hS => ?_)
      obtain ⟨er_75, eu_75⟩ := hw
      have ok_75 : okL (60) u_75 := by rw [eu_75]; exact (ol_operand (by omega) ok_74)
      refine lv_bipush (v := (25 : Int32)) hx hb d_D_assembled_190 (by decide) ?_
      refine lv_ishl hx hb d_D_assembled_192 ?_
      refine lv_ldcw (v := (16777216 : Int32)) hx hb hown (ht _ zw_1150) d_D_assembled_193 ?_
      refine lv_ior hx hb d_D_assembled_196 ?_
      refine lv_iload hx hb d_D_assembled_197 (lv_at hl 0 rfl) ?_
      refine lv_ior hx hb d_D_assembled_199 ?_
      refine lv_topi (fun x_76 ex_76 => ?_)
      refine lv_istore (lv' := [(7, .int x_76), (8, .int r_73), (6, .int x_36), (5, .int x_35), (0, .ref (h 20)), (1, .long x_22), (3, .int (nI i_23)), (4, .int (nI i_24))]) hx hb d_D_assembled_200 hl (by decide) rfl (fun ls hl => ?_)
      refine lv_goto (tgt := 276) hx hb d_D_assembled_202 (by decide) ?_
      refine lv_aload_n hx hb d_D_assembled_276 rfl (lv_at hl 4 rfl) ?_
      refine va_get (D := D) (ci := 6) (v := .int (u_75.1 2)) (C := "WindowMachineModel") (T := T_D) (N := 31) hx hb ht zi_D hown hK hP 0 rfl rfl 5 (by decide) (ht _ zw_859) (fun _ h9 => h9) rfl d_D_assembled_277 ?_
      refine zcut (X := SD) (G := fun v9 H locs ls => v9 = (if (0 : Int32) ≤ (u_75.1 2) then u_75 else (if (u_75.1 1) ≤ (u_75.1 3) then u_75 else m_wrong u_75 (u_75.1 3))) ∧ va_P D vwCl (wD h c v9) H ∧ va_D A (wD h c v9) ∧ va_S A s.heap H locs ∧ lv_has ls 9 [(0, .ref (h 20)), (1, .long x_22), (3, .int (nI i_23)), (4, .int (nI i_24)), (5, .int x_35), (6, .int x_36), (7, .int x_76), (8, .int r_73)]) (fr := fun v9 ls => F0 m 302 ls []) (fun J_78 => ?_) (fun v9 H locs ls hG => ?_)
      · refine lv_if_ge (tgt := 302) hx hb d_D_assembled_280 (by decide) (fun c_79 => ?_) (fun c_79 => ?_)
        · exact J_78 u_75 _ _ _ ⟨by simp only [if_pos c_79], hP, hD, hS, (lv_sub hl [4, 5, 6, 7, 3, 2, 0, 1] rfl)⟩
        refine lv_aload_n hx hb d_D_assembled_283 rfl (lv_at hl 4 rfl) ?_
        refine va_get (D := D) (ci := 6) (v := .int (u_75.1 3)) (C := "WindowMachineModel") (T := T_D) (N := 31) hx hb ht zi_D hown hK hP 0 rfl rfl 6 (by decide) (ht _ zw_860) (fun _ h9 => h9) rfl d_D_assembled_284 ?_
        refine lv_aload_n hx hb d_D_assembled_287 rfl (lv_at hl 4 rfl) ?_
        refine va_get (D := D) (ci := 6) (v := .int (u_75.1 1)) (C := "WindowMachineModel") (T := T_D) (N := 31) hx hb ht zi_D hown hK hP 0 rfl rfl 4 (by decide) (ht _ zw_858) (fun _ h9 => h9) rfl d_D_assembled_288 ?_
        refine lv_icmp_ge (tgt := 302) hx hb d_D_assembled_291 (by decide) (fun c_80 => ?_) (fun c_80 => ?_)
        · exact J_78 u_75 _ _ _ ⟨by simp only [if_neg c_79, if_pos c_80], hP, hD, hS, (lv_sub hl [4, 5, 6, 7, 3, 2, 0, 1] rfl)⟩
        refine lv_aload_n hx hb d_D_assembled_294 rfl (lv_at hl 4 rfl) ?_
        refine lv_aload_n hx hb d_D_assembled_295 rfl (lv_at hl 4 rfl) ?_
        refine va_get (D := D) (ci := 6) (v := .int (u_75.1 3)) (C := "WindowMachineModel") (T := T_D) (N := 31) hx hb ht zi_D hown hK hP 0 rfl rfl 6 (by decide) (ht _ zw_860) (fun _ h9 => h9) rfl d_D_assembled_296 ?_
        refine zc_v (w2 := fun u9 => wD h c u9) (va_runV (As := [.int (u_75.1 3)]) (rest := []) ⟨hx, hb, hml, hown, ht⟩ (mt_D_wrong l D h c H.size u_75 (u_75.1 3)) (cwV 1 ht (zgV zw_1114 zw_1116 zs_75 zw_7 zw_1117) rfl rfl rfl kd_D_wrong ⟨Nat.le_of_ble_eq_true rfl, Nat.le_of_ble_eq_true rfl⟩) ⟨zw_blind zw_tt, va_recv (hK.sub (tys' := [(c 21, .long), (c 22, .int), (c 23, .int), (c 24, .int), (c 25, .int), (c 26, .int), (c 27, .int), (c 28, .int)]) [0, 1, 2, 3, 4, 5, 6, 7] rfl) (hP.sub (ws' := wD h c u_75) [0, 1, 2, 3, 4, 5, 6, 7, 8] rfl) (ci := 6) (q0 := 0) rfl rfl, zw_go (hP.sub (ws' := wD h c u_75) [0, 1, 2, 3, 4, 5, 6, 7, 8] rfl) (hD.sub (ws' := wD h c u_75) [0, 1, 2, 3, 4, 5, 6, 7, 8] (by decide) rfl) (hK.sub (tys' := [(c 21, .long), (c 22, .int), (c 23, .int), (c 24, .int), (c 25, .int), (c 26, .int), (c 27, .int), (c 28, .int)]) [0, 1, 2, 3, 4, 5, 6, 7] rfl) (fun _ _ _ => trivial)⟩ rfl rfl hl.1 rfl (lv_room (Nat.le_of_ble_eq_true rfl)) d_D_assembled_299 ⟨Nat.le_of_ble_eq_true rfl, Nat.le_of_ble_eq_true rfl⟩) hP hD hS hA [0, 1, 2, 3, 4, 5, 6, 7, 8] [] [0, 1, 2, 3, 4, 5, 6, 7, 8] rfl rfl (by decide) (by decide) (by decide) (fun _ => rfl) (fun u_81 H locs hw hP hD hS => ?_)
        subst hw
        exact J_78 (m_wrong u_75 (u_75.1 3)) _ _ _ ⟨by simp only [if_neg c_79, if_neg c_80], hP, hD, hS, (lv_sub hl [4, 5, 6, 7, 3, 2, 0, 1] rfl)⟩
      obtain ⟨u_77, rfl⟩ : ∃ z, z = v9 := ⟨_, rfl⟩
      obtain ⟨eu_77, hP, hD, hS, hl⟩ := hG
      have ok_77 : okL (60) u_77 := by rw [eu_77]; exact (okL_iteD (fun c_77 => ok_75) (fun c_77 => (okL_iteD (fun c_78 => ok_75) (fun c_78 => (ol_wrong (by omega) ok_75)))))
      refine lv_iload hx hb d_D_assembled_302 (lv_at hl 6 rfl) ?_
      exact zl_i (u := u_77) hx hb hr hlocks hS hP hD (⟨by rw [hF_32]; simp only [fg_D_assembled_104, ← ex_35, ← ex_36, ← eu_48, ← er_73, ← eu_73, ← eu_74, ← er_75, ← eu_75, ← ex_76, ← eu_77, if_neg c_34, if_neg c_37, if_pos c_49, if_pos c_50], by rw [hF_32]; simp only [fg_D_assembled_104, ← ex_35, ← ex_36, ← eu_48, ← er_73, ← eu_73, ← eu_74, ← er_75, ← eu_75, ← ex_76, ← eu_77, if_neg c_34, if_neg c_37, if_pos c_49, if_pos c_50]⟩) d_D_assembled_304
    refine lv_iconst (v := (0 : Int32)) hx hb d_D_assembled_164 (by decide) ?_
    exact zl_i (u := u_48) hx hb hr hlocks hS hP hD (⟨by rw [hF_32]; simp only [fg_D_assembled_104, ← ex_35, ← ex_36, ← eu_48, if_neg c_34, if_neg c_37, if_neg c_49], by rw [hF_32]; simp only [fg_D_assembled_104, ← ex_35, ← ex_36, ← eu_48, if_neg c_34, if_neg c_37, if_neg c_49]⟩) d_D_assembled_165
  refine lv_aload_n hx hb d_D_assembled_114 rfl (lv_at hl 0 rfl) ?_
  refine lv_iconst (v := (0 : Int32)) hx hb d_D_assembled_115 (by decide) ?_
  refine zc_v (w2 := fun u9 => wD h c u9) (va_runV (As := [.int (0 : Int32)]) (rest := []) ⟨hx, hb, hml, hown, ht⟩ (mt_D_wrong l D h c H.size st (0 : Int32)) (cwV 1 ht (zgV zw_1114 zw_1116 zs_75 zw_7 zw_1117) rfl rfl rfl kd_D_wrong ⟨Nat.le_of_ble_eq_true rfl, Nat.le_of_ble_eq_true rfl⟩) ⟨zw_blind zw_tt, va_recv (hK.sub (tys' := [(c 21, .long), (c 22, .int), (c 23, .int), (c 24, .int), (c 25, .int), (c 26, .int), (c 27, .int), (c 28, .int)]) [0, 1, 2, 3, 4, 5, 6, 7] rfl) (hP.sub (ws' := wD h c st) [0, 1, 2, 3, 4, 5, 6, 7, 8] rfl) (ci := 6) (q0 := 0) rfl rfl, zw_go (hP.sub (ws' := wD h c st) [0, 1, 2, 3, 4, 5, 6, 7, 8] rfl) (hD.sub (ws' := wD h c st) [0, 1, 2, 3, 4, 5, 6, 7, 8] (by decide) rfl) (hK.sub (tys' := [(c 21, .long), (c 22, .int), (c 23, .int), (c 24, .int), (c 25, .int), (c 26, .int), (c 27, .int), (c 28, .int)]) [0, 1, 2, 3, 4, 5, 6, 7] rfl) (fun _ _ _ => trivial)⟩ rfl rfl hl.1 rfl (lv_room (Nat.le_of_ble_eq_true rfl)) d_D_assembled_116 ⟨Nat.le_of_ble_eq_true rfl, Nat.le_of_ble_eq_true rfl⟩) hP hD hS hA [0, 1, 2, 3, 4, 5, 6, 7, 8] [] [0, 1, 2, 3, 4, 5, 6, 7, 8] rfl rfl (by decide) (by decide) (by decide) (fun _ => rfl) (fun u_82 H locs hw hP hD hS => ?_)
  have eu_82 := hw
  refine lv_iconst (v := (0 : Int32)) hx hb d_D_assembled_119 (by decide) ?_
  exact zl_i (u := u_82) hx hb hr hlocks hS hP hD (⟨by rw [hF_32]; simp only [fg_D_assembled_104, ← eu_82, if_pos c_34], by rw [hF_32]; simp only [fg_D_assembled_104, ← eu_82, if_pos c_34]⟩) d_D_assembled_120
