section
variable {Q : SD → Prop}
theorem cl_memoryWord (h : clQ Q) {d : SD} {a b c : Int32} (hd : Q d) : Q (m_memoryWord d a b c) := by
  unfold m_memoryWord
  dsimp only
  generalize hu : m_traps (m_traps (m_traps d _ (2 : Int32)) _ (7 : Int32)) _ (9 : Int32) = u
  have qu : Q u := by rw [← hu]; exact cl_traps h (cl_traps h (cl_traps h hd))
  have g : ∀ r w v : Int32, Q (m_gives u r w v) := fun r w v => cl_gives h qu
  have s : ∀ x n w : Int32, Q (m_store u x n w) := fun x n w => cl_sto h qu
  exact cl_if (cl_if (cl_gives h (g _ _ _)) (cl_if (s _ _ _) (cl_if (s _ _ _) (cl_if (s _ _ _) (cl_if (cl_sto h (s _ _ _)) (cl_if (g _ _ _) (cl_if (g _ _ _) (cl_if (cl_gives h (s _ _ _)) (cl_if (cl_gives h (s _ _ _)) (g _ _ _)))))))))) qu
theorem cl_trapped (h : clQ Q) {d : SD} (hd : Q d) : Q (m_trapped d) := by
  unfold m_trapped
  have z := (h.2.2.2.2.2.2 d hd).1
  refine cl_if (cl_u h (d := (_, _)) (cl_u h hd)) ?_
  have q1 := cl_u h (i := 12) (v := d.1 12 + (1 : Int32)) hd
  have q2 := cl_u h (i := 19) (v := (0 : Int32)) q1
  have q3 := h.2.2.2.1 _ (d.1 17) q2 z
  have q4 := h.2.2.1 _ (1 : Int32) q3 z1
  have q5 := h.2.1 _ (((d.1 6) + (3 : Int32)) &&& (3 : Int32)) q4 (v3_in _)
  have q6 := cl_u h (i := 4) (v := (d.1 9) + ((16 : Int32) * (d.1 21))) q5
  have q7 := cl_u h (i := 5) (v := ((d.1 9) + ((16 : Int32) * (d.1 21))) + (4 : Int32)) q6
  have q8 := cl_u h (i := 20) (v := (0 : Int32)) q7
  exact h.2.2.2.2.1 _ d.2.2.2.1 d.2.2.2.2.1 _ q8
end
theorem ov_memoryWord {st : SD} {a b c : Int32} (h : okV st) : okV (m_memoryWord st a b c) := cl_memoryWord okV_cl h
theorem ov_low {st : SD} {a : Int32} (h : okV st) : okV (m_low st a) := cl_low okV_cl h
theorem st_pc {v u : SD} {r x : Int32} (er : r = m_in (v.1 4).toInt64 (0 : Int64) (1020 : Int64)) (ex : x = (if r = (0 : Int32) then (1 : Int32) else (0 : Int32))) (eu : u = m_traps v x (1 : Int32)) (c : ¬ (0 : Int32) ≤ u.1 21) : 0 ≤ (u.1 4).toInt ∧ 0 ≤ (4 : Int32).toInt ∧ (4 : Int32).toInt ≤ 8 ∧ (u.1 4).toInt + (4 : Int32).toInt ≤ 1024 := by
  rw [eu] at c
  obtain ⟨c1, -⟩ := tr_neg (by decide) c
  have hr : ¬ r = (0 : Int32) := fun z => by rw [ex, if_pos z] at c1; exact absurd c1 (by decide)
  rw [er] at hr
  have b := in_of hr
  rw [Int32.toInt_toInt64, show (0 : Int64).toInt = 0 from by decide, show (1020 : Int64).toInt = 1020 from by decide] at b
  have e : u.1 4 = v.1 4 := by
    rw [eu, c1]
    unfold m_traps
    dsimp only
    rw [if_pos rfl]
  rw [e, show (4 : Int32).toInt = 4 from by decide]
  omega
theorem rn_p {st : SD} {p r x f : Int32} (er : r = m_in p.toInt64 (1 : Int64) (200 : Int64)) (ex : x = (if r = (0 : Int32) then (1 : Int32) else (0 : Int32))) (ef : f = (m_fails st x (1 : Int32)).1) (c : f = (0 : Int32)) : p.toInt ≤ 200 := by
  have q := fl_no (by decide) (ef.symm.trans c)
  have hr : ¬ r = (0 : Int32) := fun z => by rw [ex, if_pos z] at q; exact absurd q (by decide)
  rw [er] at hr
  have b := (in_of hr).2
  rw [Int32.toInt_toInt64, show (200 : Int64).toInt = 200 from by decide] at b
  exact b
theorem rn_k {p : Int32} {i : Nat} (hi : i < 2 ^ 31) (h : p.toInt ≤ 200) (c : ¬ p ≤ nI i) : i + 1 ≤ 200 := by
  have q := nle_toInt c
  rw [nI_toInt hi] at q
  omega
theorem fl_1 {st : SD} {b k : Int32} : (m_fails st b k).2.1 1 = st.1 1 := by
  unfold m_fails
  dsimp only
  by_cases c : b = (0 : Int32)
  · rw [if_pos c]
  · rw [if_neg c]
    by_cases d : st.1 0 = (0 : Int32)
    · rw [if_pos d]; rfl
    · rw [if_neg d]
theorem le_b1 {n a b : Nat} {st u v : SD} {x k : Int32} (hI : b + (n + 1) = 10 ∧ b ≤ 8 ∧ a ≤ b ∧ u.1 1 = st.1 1) (c : ¬ (8 : Int32) ≤ nI b) (eu : v = (m_fails u x k).2) : b + 1 + n = 10 ∧ b + 1 ≤ 8 ∧ a ≤ b + 1 ∧ v.1 1 = st.1 1 := by
  have q := znlt (N := 8) (by omega) c
  exact ⟨by omega, by omega, by omega, by rw [eu, fl_1]; exact hI.2.2.2⟩
theorem le_b2 {n a b : Nat} {st u v : SD} {x k : Int32} (hI : b + (n + 1) = 10 ∧ b ≤ 8 ∧ a ≤ b ∧ u.1 1 = st.1 1) (c : ¬ (8 : Int32) ≤ nI b) (eu : v = (m_fails u x k).2) : b + 1 + n = 10 ∧ b + 1 ≤ 8 ∧ a + 1 ≤ b + 1 ∧ v.1 1 = st.1 1 := by
  have q := znlt (N := 8) (by omega) c
  exact ⟨by omega, by omega, by omega, by rw [eu, fl_1]; exact hI.2.2.2⟩
theorem le_i0 {m : Nat} {st u v w : SD} {x y r : Int32} (hL : 0 ≤ (st.1 1).toInt ∧ (st.1 1).toInt ≤ 40) (hI : m ≤ 8 ∧ u.1 1 = st.1 1) (ev : v = (m_fails u x (1 : Int32)).2) (ey : y = (if (v.1 1 + nI m) ≤ (40 : Int32) then (0 : Int32) else (1 : Int32))) (er : r = (m_fails v y (2 : Int32)).1) (ew : w = (m_fails v y (2 : Int32)).2) (c : r = (0 : Int32)) : 0 + 10 = 10 ∧ m ≤ 8 ∧ 0 ≤ m ∧ w.1 1 = st.1 1 ∧ (st.1 1).toInt + (m : Int) ≤ 40 := by
  have q := fl_no (by decide) (er.symm.trans c)
  have e1 : v.1 1 = st.1 1 := by rw [ev, fl_1]; exact hI.2
  have e2 : w.1 1 = st.1 1 := by rw [ew, fl_1]; exact e1
  refine ⟨rfl, hI.1, Nat.zero_le _, e2, ?_⟩
  by_cases k : (v.1 1 + nI m) ≤ (40 : Int32)
  · rw [e1, Int32.le_iff_toInt_le, Int32.toInt_add, nI_toInt (by omega), show (40 : Int32).toInt = 40 from by decide] at k
    have z : ((st.1 1).toInt + (m : Int)).bmod (2 ^ 32) = (st.1 1).toInt + (m : Int) := by apply Int.bmod_eq_of_le <;> omega
    rw [z] at k
    exact k
  · rw [ey, if_neg k] at q
    exact absurd q (by decide)
theorem le_ix {n a b : Nat} {st u : SD} (hL : 0 ≤ (st.1 1).toInt ∧ (st.1 1).toInt ≤ 40) (hI : b + (n + 1) = 10 ∧ a ≤ 8 ∧ b ≤ a ∧ u.1 1 = st.1 1 ∧ (st.1 1).toInt + (a : Int) ≤ 40) (c : ¬ nI a ≤ nI b) : vp_in (u.1 1 + nI b) 40 := by
  have q := znlt (N := a) (by omega) c
  have e : (st.1 1 + nI b).toInt = (st.1 1).toInt + (b : Int) := by
    rw [Int32.toInt_add, nI_toInt (by omega)]
    apply Int.bmod_eq_of_le <;> omega
  rw [hI.2.2.2.1]
  exact vp_in_iff.mpr ⟨by omega, by omega⟩
theorem le_b3 {n a b : Nat} {st u : SD} (hI : b + (n + 1) = 10 ∧ a ≤ 8 ∧ b ≤ a ∧ u.1 1 = st.1 1 ∧ (st.1 1).toInt + (a : Int) ≤ 40) (c : ¬ nI a ≤ nI b) : b + 1 + n = 10 ∧ a ≤ 8 ∧ b + 1 ≤ a ∧ u.1 1 = st.1 1 ∧ (st.1 1).toInt + (a : Int) ≤ 40 := by
  have q := znlt (N := a) (by omega) c
  exact ⟨by omega, hI.2.1, by omega, hI.2.2.2.1, hI.2.2.2.2⟩
theorem d_D_step_0 : decode c_D_step 0 = .ok (.aload_n 0, 1) := by decide +kernel
theorem d_D_step_1 : decode c_D_step 1 = .ok (.dup, 1) := by decide +kernel
theorem d_D_step_2 : decode c_D_step 2 = .ok (.getfield 249, 3) := by decide +kernel
theorem d_D_step_5 : decode c_D_step 5 = .ok (.iconst 1, 1) := by decide +kernel
theorem d_D_step_6 : decode c_D_step 6 = .ok (.iadd, 1) := by decide +kernel
theorem d_D_step_7 : decode c_D_step 7 = .ok (.putfield 249, 3) := by decide +kernel
theorem d_D_step_10 : decode c_D_step 10 = .ok (.aload_n 0, 1) := by decide +kernel
theorem d_D_step_11 : decode c_D_step 11 = .ok (.getfield 277, 3) := by decide +kernel
theorem d_D_step_14 : decode c_D_step 14 = .ok (.ifCond .eq 27, 3) := by decide +kernel
theorem d_D_step_17 : decode c_D_step 17 = .ok (.aload_n 0, 1) := by decide +kernel
theorem d_D_step_18 : decode c_D_step 18 = .ok (.iconst 0, 1) := by decide +kernel
theorem d_D_step_19 : decode c_D_step 19 = .ok (.putfield 277, 3) := by decide +kernel
theorem d_D_step_22 : decode c_D_step 22 = .ok (.aload_n 0, 1) := by decide +kernel
theorem d_D_step_23 : decode c_D_step 23 = .ok (.aload_n 0, 1) := by decide +kernel
theorem d_D_step_24 : decode c_D_step 24 = .ok (.getfield 234, 3) := by decide +kernel
theorem d_D_step_27 : decode c_D_step 27 = .ok (.putfield 231, 3) := by decide +kernel
theorem d_D_step_30 : decode c_D_step 30 = .ok (.aload_n 0, 1) := by decide +kernel
theorem d_D_step_31 : decode c_D_step 31 = .ok (.aload_n 0, 1) := by decide +kernel
theorem d_D_step_32 : decode c_D_step 32 = .ok (.getfield 234, 3) := by decide +kernel
theorem d_D_step_35 : decode c_D_step 35 = .ok (.iconst 4, 1) := by decide +kernel
theorem d_D_step_36 : decode c_D_step 36 = .ok (.iadd, 1) := by decide +kernel
theorem d_D_step_37 : decode c_D_step 37 = .ok (.putfield 234, 3) := by decide +kernel
theorem d_D_step_40 : decode c_D_step 40 = .ok (.return_, 1) := by decide +kernel
theorem d_D_step_41 : decode c_D_step 41 = .ok (.aload_n 0, 1) := by decide +kernel
theorem d_D_step_42 : decode c_D_step 42 = .ok (.iconst (-1), 1) := by decide +kernel
theorem d_D_step_43 : decode c_D_step 43 = .ok (.putfield 312, 3) := by decide +kernel
theorem d_D_step_46 : decode c_D_step 46 = .ok (.aload_n 0, 1) := by decide +kernel
theorem d_D_step_47 : decode c_D_step 47 = .ok (.aload_n 0, 1) := by decide +kernel
theorem d_D_step_48 : decode c_D_step 48 = .ok (.getfield 234, 3) := by decide +kernel
theorem d_D_step_51 : decode c_D_step 51 = .ok (.iconst 4, 1) := by decide +kernel
theorem d_D_step_52 : decode c_D_step 52 = .ok (.iadd, 1) := by decide +kernel
theorem d_D_step_53 : decode c_D_step 53 = .ok (.putfield 320, 3) := by decide +kernel
theorem d_D_step_56 : decode c_D_step 56 = .ok (.aload_n 0, 1) := by decide +kernel
theorem d_D_step_57 : decode c_D_step 57 = .ok (.aload_n 0, 1) := by decide +kernel
theorem d_D_step_58 : decode c_D_step 58 = .ok (.getfield 231, 3) := by decide +kernel
theorem d_D_step_61 : decode c_D_step 61 = .ok (.iconst 3, 1) := by decide +kernel
theorem d_D_step_62 : decode c_D_step 62 = .ok (.iand, 1) := by decide +kernel
theorem d_D_step_63 : decode c_D_step 63 = .ok (.ifCond .eq 7, 3) := by decide +kernel
theorem d_D_step_66 : decode c_D_step 66 = .ok (.iconst 1, 1) := by decide +kernel
theorem d_D_step_67 : decode c_D_step 67 = .ok (.goto 4, 3) := by decide +kernel
theorem d_D_step_70 : decode c_D_step 70 = .ok (.iconst 0, 1) := by decide +kernel
theorem d_D_step_71 : decode c_D_step 71 = .ok (.bipush 7, 2) := by decide +kernel
theorem d_D_step_73 : decode c_D_step 73 = .ok (.invokevirtual 334, 3) := by decide +kernel
theorem d_D_step_76 : decode c_D_step 76 = .ok (.aload_n 0, 1) := by decide +kernel
theorem d_D_step_77 : decode c_D_step 77 = .ok (.aload_n 0, 1) := by decide +kernel
theorem d_D_step_78 : decode c_D_step 78 = .ok (.getfield 231, 3) := by decide +kernel
theorem d_D_step_81 : decode c_D_step 81 = .ok (.i2l, 1) := by decide +kernel
theorem d_D_step_82 : decode c_D_step 82 = .ok (.lconst 0, 1) := by decide +kernel
theorem d_D_step_83 : decode c_D_step 83 = .ok (.ldc2_w 280, 3) := by decide +kernel
theorem d_D_step_86 : decode c_D_step 86 = .ok (.invokestatic 282, 3) := by decide +kernel
theorem d_D_step_89 : decode c_D_step 89 = .ok (.ifCond .ne 7, 3) := by decide +kernel
theorem d_D_step_92 : decode c_D_step 92 = .ok (.iconst 1, 1) := by decide +kernel
theorem d_D_step_93 : decode c_D_step 93 = .ok (.goto 4, 3) := by decide +kernel
theorem d_D_step_96 : decode c_D_step 96 = .ok (.iconst 0, 1) := by decide +kernel
theorem d_D_step_97 : decode c_D_step 97 = .ok (.iconst 1, 1) := by decide +kernel
theorem d_D_step_98 : decode c_D_step 98 = .ok (.invokevirtual 334, 3) := by decide +kernel
theorem d_D_step_101 : decode c_D_step 101 = .ok (.aload_n 0, 1) := by decide +kernel
theorem d_D_step_102 : decode c_D_step 102 = .ok (.getfield 312, 3) := by decide +kernel
theorem d_D_step_105 : decode c_D_step 105 = .ok (.ifCond .ge 163, 3) := by decide +kernel
theorem d_D_step_108 : decode c_D_step 108 = .ok (.aload_n 0, 1) := by decide +kernel
theorem d_D_step_109 : decode c_D_step 109 = .ok (.aload_n 0, 1) := by decide +kernel
theorem d_D_step_110 : decode c_D_step 110 = .ok (.getfield 231, 3) := by decide +kernel
theorem d_D_step_113 : decode c_D_step 113 = .ok (.iconst 4, 1) := by decide +kernel
theorem d_D_step_114 : decode c_D_step 114 = .ok (.invokevirtual 294, 3) := by decide +kernel
theorem d_D_step_117 : decode c_D_step 117 = .ok (.istore_n 1, 1) := by decide +kernel
theorem d_D_step_118 : decode c_D_step 118 = .ok (.iload_n 1, 1) := by decide +kernel
theorem d_D_step_119 : decode c_D_step 119 = .ok (.bipush 30, 2) := by decide +kernel
theorem d_D_step_121 : decode c_D_step 121 = .ok (.iushr, 1) := by decide +kernel
theorem d_D_step_122 : decode c_D_step 122 = .ok (.istore_n 2, 1) := by decide +kernel
theorem d_D_step_123 : decode c_D_step 123 = .ok (.iload_n 1, 1) := by decide +kernel
theorem d_D_step_124 : decode c_D_step 124 = .ok (.bipush 25, 2) := by decide +kernel
theorem d_D_step_126 : decode c_D_step 126 = .ok (.ishr, 1) := by decide +kernel
theorem d_D_step_127 : decode c_D_step 127 = .ok (.bipush 31, 2) := by decide +kernel
theorem d_D_step_129 : decode c_D_step 129 = .ok (.iand, 1) := by decide +kernel
theorem d_D_step_130 : decode c_D_step 130 = .ok (.istore_n 3, 1) := by decide +kernel
theorem d_D_step_131 : decode c_D_step 131 = .ok (.iload_n 1, 1) := by decide +kernel
theorem d_D_step_132 : decode c_D_step 132 = .ok (.bipush 19, 2) := by decide +kernel
theorem d_D_step_134 : decode c_D_step 134 = .ok (.ishr, 1) := by decide +kernel
theorem d_D_step_135 : decode c_D_step 135 = .ok (.bipush 63, 2) := by decide +kernel
theorem d_D_step_137 : decode c_D_step 137 = .ok (.iand, 1) := by decide +kernel
theorem d_D_step_138 : decode c_D_step 138 = .ok (.istore 4, 2) := by decide +kernel
theorem d_D_step_140 : decode c_D_step 140 = .ok (.iload_n 1, 1) := by decide +kernel
theorem d_D_step_141 : decode c_D_step 141 = .ok (.bipush 14, 2) := by decide +kernel
theorem d_D_step_143 : decode c_D_step 143 = .ok (.ishr, 1) := by decide +kernel
theorem d_D_step_144 : decode c_D_step 144 = .ok (.bipush 31, 2) := by decide +kernel
theorem d_D_step_146 : decode c_D_step 146 = .ok (.iand, 1) := by decide +kernel
theorem d_D_step_147 : decode c_D_step 147 = .ok (.istore 5, 2) := by decide +kernel
theorem d_D_step_149 : decode c_D_step 149 = .ok (.iload_n 1, 1) := by decide +kernel
theorem d_D_step_150 : decode c_D_step 150 = .ok (.bipush 13, 2) := by decide +kernel
theorem d_D_step_152 : decode c_D_step 152 = .ok (.ishr, 1) := by decide +kernel
theorem d_D_step_153 : decode c_D_step 153 = .ok (.iconst 1, 1) := by decide +kernel
theorem d_D_step_154 : decode c_D_step 154 = .ok (.iand, 1) := by decide +kernel
theorem d_D_step_155 : decode c_D_step 155 = .ok (.iconst 1, 1) := by decide +kernel
theorem d_D_step_156 : decode c_D_step 156 = .ok (.if_icmp .ne 13, 3) := by decide +kernel
theorem d_D_step_159 : decode c_D_step 159 = .ok (.iload_n 1, 1) := by decide +kernel
theorem d_D_step_160 : decode c_D_step 160 = .ok (.bipush 19, 2) := by decide +kernel
theorem d_D_step_162 : decode c_D_step 162 = .ok (.ishl, 1) := by decide +kernel
theorem d_D_step_163 : decode c_D_step 163 = .ok (.bipush 19, 2) := by decide +kernel
theorem d_D_step_165 : decode c_D_step 165 = .ok (.ishr, 1) := by decide +kernel
theorem d_D_step_166 : decode c_D_step 166 = .ok (.goto 15, 3) := by decide +kernel
theorem d_D_step_169 : decode c_D_step 169 = .ok (.aload_n 0, 1) := by decide +kernel
theorem d_D_step_170 : decode c_D_step 170 = .ok (.iload_n 1, 1) := by decide +kernel
theorem d_D_step_171 : decode c_D_step 171 = .ok (.bipush 31, 2) := by decide +kernel
theorem d_D_step_173 : decode c_D_step 173 = .ok (.iand, 1) := by decide +kernel
theorem d_D_step_174 : decode c_D_step 174 = .ok (.aload_n 0, 1) := by decide +kernel
theorem d_D_step_175 : decode c_D_step 175 = .ok (.getfield 237, 3) := by decide +kernel
theorem d_D_step_178 : decode c_D_step 178 = .ok (.invokevirtual 306, 3) := by decide +kernel
theorem d_D_step_181 : decode c_D_step 181 = .ok (.istore 6, 2) := by decide +kernel
theorem d_D_step_183 : decode c_D_step 183 = .ok (.iload_n 2, 1) := by decide +kernel
theorem d_D_step_184 : decode c_D_step 184 = .ok (.iconst 1, 1) := by decide +kernel
theorem d_D_step_185 : decode c_D_step 185 = .ok (.if_icmp .ne 32, 3) := by decide +kernel
theorem d_D_step_188 : decode c_D_step 188 = .ok (.aload_n 0, 1) := by decide +kernel
theorem d_D_step_189 : decode c_D_step 189 = .ok (.bipush 15, 2) := by decide +kernel
theorem d_D_step_191 : decode c_D_step 191 = .ok (.aload_n 0, 1) := by decide +kernel
theorem d_D_step_192 : decode c_D_step 192 = .ok (.getfield 237, 3) := by decide +kernel
theorem d_D_step_195 : decode c_D_step 195 = .ok (.aload_n 0, 1) := by decide +kernel
theorem d_D_step_196 : decode c_D_step 196 = .ok (.getfield 231, 3) := by decide +kernel
theorem d_D_step_199 : decode c_D_step 199 = .ok (.invokevirtual 309, 3) := by decide +kernel
theorem d_D_step_202 : decode c_D_step 202 = .ok (.aload_n 0, 1) := by decide +kernel
theorem d_D_step_203 : decode c_D_step 203 = .ok (.aload_n 0, 1) := by decide +kernel
theorem d_D_step_204 : decode c_D_step 204 = .ok (.getfield 231, 3) := by decide +kernel
theorem d_D_step_207 : decode c_D_step 207 = .ok (.iload_n 1, 1) := by decide +kernel
theorem d_D_step_208 : decode c_D_step 208 = .ok (.iconst 2, 1) := by decide +kernel
theorem d_D_step_209 : decode c_D_step 209 = .ok (.ishl, 1) := by decide +kernel
theorem d_D_step_210 : decode c_D_step 210 = .ok (.iadd, 1) := by decide +kernel
theorem d_D_step_211 : decode c_D_step 211 = .ok (.putfield 320, 3) := by decide +kernel
theorem d_D_step_214 : decode c_D_step 214 = .ok (.goto 54, 3) := by decide +kernel
theorem d_D_step_217 : decode c_D_step 217 = .ok (.iload_n 2, 1) := by decide +kernel
theorem d_D_step_218 : decode c_D_step 218 = .ok (.ifCond .ne 11, 3) := by decide +kernel
theorem d_D_step_221 : decode c_D_step 221 = .ok (.aload_n 0, 1) := by decide +kernel
theorem d_D_step_222 : decode c_D_step 222 = .ok (.iload_n 1, 1) := by decide +kernel
theorem d_D_step_223 : decode c_D_step 223 = .ok (.invokevirtual 381, 3) := by decide +kernel
theorem d_D_step_226 : decode c_D_step 226 = .ok (.goto 42, 3) := by decide +kernel
theorem d_D_step_229 : decode c_D_step 229 = .ok (.iload_n 2, 1) := by decide +kernel
theorem d_D_step_230 : decode c_D_step 230 = .ok (.iconst 2, 1) := by decide +kernel
theorem d_D_step_231 : decode c_D_step 231 = .ok (.if_icmp .ne 17, 3) := by decide +kernel
theorem d_D_step_234 : decode c_D_step 234 = .ok (.aload_n 0, 1) := by decide +kernel
theorem d_D_step_235 : decode c_D_step 235 = .ok (.iload_n 3, 1) := by decide +kernel
theorem d_D_step_236 : decode c_D_step 236 = .ok (.iload 4, 2) := by decide +kernel
theorem d_D_step_238 : decode c_D_step 238 = .ok (.iload 5, 2) := by decide +kernel
theorem d_D_step_240 : decode c_D_step 240 = .ok (.iload 6, 2) := by decide +kernel
theorem d_D_step_242 : decode c_D_step 242 = .ok (.invokevirtual 384, 3) := by decide +kernel
theorem d_D_step_245 : decode c_D_step 245 = .ok (.goto 23, 3) := by decide +kernel
theorem d_D_step_248 : decode c_D_step 248 = .ok (.aload_n 0, 1) := by decide +kernel
theorem d_D_step_249 : decode c_D_step 249 = .ok (.iload_n 3, 1) := by decide +kernel
theorem d_D_step_250 : decode c_D_step 250 = .ok (.iload 4, 2) := by decide +kernel
theorem d_D_step_252 : decode c_D_step 252 = .ok (.aload_n 0, 1) := by decide +kernel
theorem d_D_step_253 : decode c_D_step 253 = .ok (.iload 5, 2) := by decide +kernel
theorem d_D_step_255 : decode c_D_step 255 = .ok (.aload_n 0, 1) := by decide +kernel
theorem d_D_step_256 : decode c_D_step 256 = .ok (.getfield 237, 3) := by decide +kernel
theorem d_D_step_259 : decode c_D_step 259 = .ok (.invokevirtual 306, 3) := by decide +kernel
theorem d_D_step_262 : decode c_D_step 262 = .ok (.iload 6, 2) := by decide +kernel
theorem d_D_step_264 : decode c_D_step 264 = .ok (.iadd, 1) := by decide +kernel
theorem d_D_step_265 : decode c_D_step 265 = .ok (.invokevirtual 387, 3) := by decide +kernel
theorem d_D_step_268 : decode c_D_step 268 = .ok (.aload_n 0, 1) := by decide +kernel
theorem d_D_step_269 : decode c_D_step 269 = .ok (.getfield 312, 3) := by decide +kernel
theorem d_D_step_272 : decode c_D_step 272 = .ok (.ifCond .lt 8, 3) := by decide +kernel
theorem d_D_step_275 : decode c_D_step 275 = .ok (.aload_n 0, 1) := by decide +kernel
theorem d_D_step_276 : decode c_D_step 276 = .ok (.invokevirtual 390, 3) := by decide +kernel
theorem d_D_step_279 : decode c_D_step 279 = .ok (.return_, 1) := by decide +kernel
theorem d_D_step_280 : decode c_D_step 280 = .ok (.aload_n 0, 1) := by decide +kernel
theorem d_D_step_281 : decode c_D_step 281 = .ok (.aload_n 0, 1) := by decide +kernel
theorem d_D_step_282 : decode c_D_step 282 = .ok (.getfield 234, 3) := by decide +kernel
theorem d_D_step_285 : decode c_D_step 285 = .ok (.putfield 231, 3) := by decide +kernel
theorem d_D_step_288 : decode c_D_step 288 = .ok (.aload_n 0, 1) := by decide +kernel
theorem d_D_step_289 : decode c_D_step 289 = .ok (.aload_n 0, 1) := by decide +kernel
theorem d_D_step_290 : decode c_D_step 290 = .ok (.getfield 320, 3) := by decide +kernel
theorem d_D_step_293 : decode c_D_step 293 = .ok (.putfield 234, 3) := by decide +kernel
theorem d_D_step_296 : decode c_D_step 296 = .ok (.return_, 1) := by decide +kernel
theorem kd_D_step : (y_D_step).cls = "WindowMachineModel" ∧ (y_D_step).cls ≠ "java/lang/invoke/MethodHandle" ∧ (y_D_step).cls ≠ "java/lang/invoke/VarHandle" ∧ (parseMethodDescriptor (y_D_step).desc).map (fun d => d.parameters.length) = some 0 := by decide +kernel
def m_step (st : SD) : SD := (if (st.1 20) = (0 : Int32) then (let x_2 := (if ((st.1 4) &&& (3 : Int32)) = (0 : Int32) then (0 : Int32) else (1 : Int32)); (let u_5 := m_traps (upd (upd (upd st.1 11 ((st.1 11) + (1 : Int32))) 21 (-1 : Int32)) 22 ((st.1 5) + (4 : Int32)), st.2.1, st.2.2.1, st.2.2.2.1, st.2.2.2.2.1, st.2.2.2.2.2) x_2 (7 : Int32); (let r_6 := m_in ((u_5.1 4).toInt64) (0 : Int64) (1020 : Int64); (let x_7 := (if r_6 = (0 : Int32) then (1 : Int32) else (0 : Int32)); (let u_10 := m_traps u_5 x_7 (1 : Int32); (if (0 : Int32) ≤ (u_10.1 21) then (if (u_10.1 21) < (0 : Int32) then (upd (upd u_10.1 4 (u_10.1 5)) 5 (u_10.1 22), u_10.2.1, u_10.2.2.1, u_10.2.2.2.1, u_10.2.2.2.2.1, u_10.2.2.2.2.2) else (let u_13 := m_trapped u_10; u_13)) else (let r_14 := m_take u_10 (u_10.1 4) (4 : Int32); (let x_15 := (r_14 >>> ((25 : Int32) &&& 31)) &&& (31 : Int32); (let x_16 := (r_14 >>> ((19 : Int32) &&& 31)) &&& (63 : Int32); (let x_17 := (r_14 >>> ((14 : Int32) &&& 31)) &&& (31 : Int32); (let x_18 := (if ((r_14 >>> ((13 : Int32) &&& 31)) &&& (1 : Int32)) = (1 : Int32) then (r_14 <<< ((19 : Int32) &&& 31)) >>> ((19 : Int32) &&& 31) else m_get u_10 (r_14 &&& (31 : Int32)) (u_10.1 6)); (if (zushr r_14 (30 : Int32)) = (1 : Int32) then (let u_35 := m_gives u_10 (15 : Int32) (u_10.1 6) (u_10.1 4); (if (u_35.1 21) < (0 : Int32) then (upd (upd (upd u_35.1 22 ((u_35.1 4) + (r_14 <<< ((2 : Int32) &&& 31)))) 4 (u_35.1 5)) 5 ((u_35.1 4) + (r_14 <<< ((2 : Int32) &&& 31))), u_35.2.1, u_35.2.2.1, u_35.2.2.2.1, u_35.2.2.2.2.1, u_35.2.2.2.2.2) else (let u_37 := m_trapped (upd u_35.1 22 ((u_35.1 4) + (r_14 <<< ((2 : Int32) &&& 31))), u_35.2.1, u_35.2.2.1, u_35.2.2.2.1, u_35.2.2.2.2.1, u_35.2.2.2.2.2); u_37))) else (if (zushr r_14 (30 : Int32)) = (0 : Int32) then (let u_32 := m_low u_10 r_14; (if (u_32.1 21) < (0 : Int32) then (upd (upd u_32.1 4 (u_32.1 5)) 5 (u_32.1 22), u_32.2.1, u_32.2.2.1, u_32.2.2.2.1, u_32.2.2.2.2.1, u_32.2.2.2.2.2) else (let u_34 := m_trapped u_32; u_34))) else (if (zushr r_14 (30 : Int32)) = (2 : Int32) then (let u_29 := m_middle u_10 x_15 x_16 x_17 x_18; (if (u_29.1 21) < (0 : Int32) then (upd (upd u_29.1 4 (u_29.1 5)) 5 (u_29.1 22), u_29.2.1, u_29.2.2.1, u_29.2.2.2.1, u_29.2.2.2.2.1, u_29.2.2.2.2.2) else (let u_31 := m_trapped u_29; u_31))) else (let r_25 := m_get u_10 x_17 (u_10.1 6); (let u_26 := m_memoryWord u_10 x_15 x_16 (r_25 + x_18); (if (u_26.1 21) < (0 : Int32) then (upd (upd u_26.1 4 (u_26.1 5)) 5 (u_26.1 22), u_26.2.1, u_26.2.2.1, u_26.2.2.2.1, u_26.2.2.2.2.1, u_26.2.2.2.2.2) else (let u_28 := m_trapped u_26; u_28)))))))))))))))))) else (upd (upd (upd (upd st.1 11 ((st.1 11) + (1 : Int32))) 20 (0 : Int32)) 4 (st.1 5)) 5 ((st.1 5) + (4 : Int32)), st.2.1, st.2.2.1, st.2.2.2.1, st.2.2.2.2.1, st.2.2.2.2.2))
set_option maxHeartbeats 4000000 in
set_option maxRecDepth 100000 in
theorem mt_D_step (l : Launch) (D : va_G) (h : Nat → Nat) (c : Nat → ClassId) (sz : Nat) (st : SD) (hV : okV st) : Met l y_D_step w_D_step ({ frames := 4, cells := 0, slots := 0, locals := 115 }) (va_Pc [.ref (h 20)] (zw_pre D vwCl [(c 21, .long), (c 22, .int), (c 23, .int), (c 24, .int), (c 25, .int), (c 26, .int), (c 27, .int), (c 28, .int)] sz (wD h c st) (fun _ => True))) (va_Qv (fun (u : SD) => u = m_step st) (fun u t => zw_at D vwCl (va_A (wD h c st) sz) ((fun (u : SD) => wD h c u) u) t) (va_A (wD h c st) sz)) 0 0 (va_A (wD h c st) sz) := by
  refine zm (Qf := fun A => va_Qv (fun (u : SD) => u = m_step st) (fun u t => zw_at D vwCl A ((fun (u : SD) => wD h c u) u) t) A) (Zf := fun _ _ => True) (cc := c_D_step) (nL := 7) (ret := none) (by decide) rfl (Nat.le_of_ble_eq_true rfl) ?_
  intro p e s m below meth c9 A H locs ls hx hb hml hown hts hr hlocks hA hK hP hD hS hZ hl
  have hl : lv_has ls 7 [(0, .ref (h 20))] := hl
  have ht : ∀ w9 ∈ zT, w9.before _ s = true := fun w9 h9 => hts w9 (List.mem_cons_of_mem _ h9)
  refine lv_aload_n hx hb d_D_step_0 rfl (lv_at hl 0 rfl) ?_
  refine lv_dup hx hb d_D_step_1 rfl ?_
  refine va_get (D := D) (ci := 6) (v := .int (st.1 11)) (C := "WindowMachineModel") (T := T_D) (N := 31) hx hb ht zi_D hown hK hP 0 rfl rfl 19 (by decide) (ht _ zw_873) (fun _ h9 => h9) rfl d_D_step_2 ?_
  refine lv_iconst (v := (1 : Int32)) hx hb d_D_step_5 (by decide) ?_
  refine lv_iadd hx hb d_D_step_6 ?_
  refine va_put (D := D) (ci := 6) (v := .int ((st.1 11) + (1 : Int32))) (ty := .int) (C := "WindowMachineModel") (T := T_D) (N := 31) hx hb ht zi_D ty_D tyok_D nm_D hown hK hP hD hS 0 rfl rfl 19 (by decide) (ht _ zw_873) (fun _ h9 => h9) rfl (by decide +kernel) rfl rfl (Nat.le_of_ble_eq_true rfl) d_D_step_7 (fun H locs hP hD hS => ?_)
  have hP : va_P D vwCl (wD h c (upd st.1 11 ((st.1 11) + (1 : Int32)), st.2.1, st.2.2.1, st.2.2.2.1, st.2.2.2.2.1, st.2.2.2.2.2)) H := hP
  have hD : va_D A (wD h c (upd st.1 11 ((st.1 11) + (1 : Int32)), st.2.1, st.2.2.1, st.2.2.2.1, st.2.2.2.2.1, st.2.2.2.2.2)) := hD
  refine lv_aload_n hx hb d_D_step_10 rfl (lv_at hl 0 rfl) ?_
  refine va_get (D := D) (ci := 6) (v := .int (st.1 20)) (C := "WindowMachineModel") (T := T_D) (N := 31) hx hb ht zi_D hown hK hP 0 rfl rfl 28 (by decide) (ht _ zw_882) (fun _ h9 => h9) rfl d_D_step_11 ?_
  refine lv_if_eq (tgt := 41) hx hb d_D_step_14 (by decide) (fun c_1 => ?_) (fun c_1 => ?_)
  · refine lv_aload_n hx hb d_D_step_41 rfl (lv_at hl 0 rfl) ?_
    refine lv_iconst (v := (-1 : Int32)) hx hb d_D_step_42 (by decide) ?_
    refine va_put (D := D) (ci := 6) (v := .int (-1 : Int32)) (ty := .int) (C := "WindowMachineModel") (T := T_D) (N := 31) hx hb ht zi_D ty_D tyok_D nm_D hown hK hP hD hS 0 rfl rfl 29 (by decide) (ht _ zw_883) (fun _ h9 => h9) rfl (by decide +kernel) rfl rfl (Nat.le_of_ble_eq_true rfl) d_D_step_43 (fun H locs hP hD hS => ?_)
    have hP : va_P D vwCl (wD h c (upd (upd st.1 11 ((st.1 11) + (1 : Int32))) 21 (-1 : Int32), st.2.1, st.2.2.1, st.2.2.2.1, st.2.2.2.2.1, st.2.2.2.2.2)) H := hP
    have hD : va_D A (wD h c (upd (upd st.1 11 ((st.1 11) + (1 : Int32))) 21 (-1 : Int32), st.2.1, st.2.2.1, st.2.2.2.1, st.2.2.2.2.1, st.2.2.2.2.2)) := hD
    refine lv_aload_n hx hb d_D_step_46 rfl (lv_at hl 0 rfl) ?_
    refine lv_aload_n hx hb d_D_step_47 rfl (lv_at hl 0 rfl) ?_
    refine va_get (D := D) (ci := 6) (v := .int (st.1 5)) (C := "WindowMachineModel") (T := T_D) (N := 31) hx hb ht zi_D hown hK hP 0 rfl rfl 13 (by decide) (ht _ zw_867) (fun _ h9 => h9) rfl d_D_step_48 ?_
    refine lv_iconst (v := (4 : Int32)) hx hb d_D_step_51 (by decide) ?_
    refine lv_iadd hx hb d_D_step_52 ?_
    refine va_put (D := D) (ci := 6) (v := .int ((st.1 5) + (4 : Int32))) (ty := .int) (C := "WindowMachineModel") (T := T_D) (N := 31) hx hb ht zi_D ty_D tyok_D nm_D hown hK hP hD hS 0 rfl rfl 30 (by decide) (ht _ zw_884) (fun _ h9 => h9) rfl (by decide +kernel) rfl rfl (Nat.le_of_ble_eq_true rfl) d_D_step_53 (fun H locs hP hD hS => ?_)
    have hP : va_P D vwCl (wD h c (upd (upd (upd st.1 11 ((st.1 11) + (1 : Int32))) 21 (-1 : Int32)) 22 ((st.1 5) + (4 : Int32)), st.2.1, st.2.2.1, st.2.2.2.1, st.2.2.2.2.1, st.2.2.2.2.2)) H := hP
    have hD : va_D A (wD h c (upd (upd (upd st.1 11 ((st.1 11) + (1 : Int32))) 21 (-1 : Int32)) 22 ((st.1 5) + (4 : Int32)), st.2.1, st.2.2.1, st.2.2.2.1, st.2.2.2.2.1, st.2.2.2.2.2)) := hD
    refine lv_aload_n hx hb d_D_step_56 rfl (lv_at hl 0 rfl) ?_
    refine lv_aload_n hx hb d_D_step_57 rfl (lv_at hl 0 rfl) ?_
    refine va_get (D := D) (ci := 6) (v := .int (st.1 4)) (C := "WindowMachineModel") (T := T_D) (N := 31) hx hb ht zi_D hown hK hP 0 rfl rfl 12 (by decide) (ht _ zw_866) (fun _ h9 => h9) rfl d_D_step_58 ?_
    refine lv_iconst (v := (3 : Int32)) hx hb d_D_step_61 (by decide) ?_
    refine lv_iand hx hb d_D_step_62 ?_
    refine zcut (X := Int32) (G := fun v9 H locs ls => v9 = (if ((st.1 4) &&& (3 : Int32)) = (0 : Int32) then (0 : Int32) else (1 : Int32)) ∧ va_P D vwCl (wD h c (upd (upd (upd st.1 11 ((st.1 11) + (1 : Int32))) 21 (-1 : Int32)) 22 ((st.1 5) + (4 : Int32)), st.2.1, st.2.2.1, st.2.2.2.1, st.2.2.2.2.1, st.2.2.2.2.2)) H ∧ va_D A (wD h c (upd (upd (upd st.1 11 ((st.1 11) + (1 : Int32))) 21 (-1 : Int32)) 22 ((st.1 5) + (4 : Int32)), st.2.1, st.2.2.1, st.2.2.2.1, st.2.2.2.2.1, st.2.2.2.2.2)) ∧ va_S A s.heap H locs ∧ lv_has ls 7 [(0, .ref (h 20))]) (fr := fun v9 ls => F0 m 71 ls [.int v9, .ref (h 20)]) (fun J_3 => ?_) (fun v9 H locs ls hG => ?_)
    · refine lv_if_eq (tgt := 70) hx hb d_D_step_63 (by decide) (fun c_4 => ?_) (fun c_4 => ?_)
      · refine lv_iconst (v := (0 : Int32)) hx hb d_D_step_70 (by decide) ?_
        exact J_3 (0 : Int32) _ _ _ ⟨by simp only [if_pos c_4], hP, hD, hS, hl⟩
      refine lv_iconst (v := (1 : Int32)) hx hb d_D_step_66 (by decide) ?_
      refine lv_goto (tgt := 71) hx hb d_D_step_67 (by decide) ?_
      exact J_3 (1 : Int32) _ _ _ ⟨by simp only [if_neg c_4], hP, hD, hS, hl⟩
    obtain ⟨x_2, rfl⟩ : ∃ z, z = v9 := ⟨_, rfl⟩
    obtain ⟨ex_2, hP, hD, hS, hl⟩ := hG
    have zbx_2 : zB x_2 := by rw [ex_2]; repeat' first | with_reducible exact zB0 | with_reducible exact zB1 | with_reducible assumption | with_reducible refine zB_ite ?_ ?_
    refine lv_bipush (v := (7 : Int32)) hx hb d_D_step_71 (by decide) ?_
    refine zc_v (w2 := fun u9 => wD h c u9) (va_runV (As := [.int x_2, .int (7 : Int32)]) (rest := []) ⟨hx, hb, hml, hown, ht⟩ (mt_D_traps l D h c H.size (upd (upd (upd st.1 11 ((st.1 11) + (1 : Int32))) 21 (-1 : Int32)) 22 ((st.1 5) + (4 : Int32)), st.2.1, st.2.2.1, st.2.2.2.1, st.2.2.2.2.1, st.2.2.2.2.2) x_2 (7 : Int32)) (cwV 2 ht (zgV zw_1007 zw_1009 zs_59 zw_7 zw_1010) rfl rfl rfl kd_D_traps ⟨Nat.le_of_ble_eq_true rfl, Nat.le_of_ble_eq_true rfl⟩) ⟨zw_blind zw_tt, va_recv (hK.sub (tys' := [(c 21, .long), (c 22, .int), (c 23, .int), (c 24, .int), (c 25, .int), (c 26, .int), (c 27, .int), (c 28, .int)]) [0, 1, 2, 3, 4, 5, 6, 7] rfl) (hP.sub (ws' := wD h c (upd (upd (upd st.1 11 ((st.1 11) + (1 : Int32))) 21 (-1 : Int32)) 22 ((st.1 5) + (4 : Int32)), st.2.1, st.2.2.1, st.2.2.2.1, st.2.2.2.2.1, st.2.2.2.2.2)) [0, 1, 2, 3, 4, 5, 6, 7, 8] rfl) (ci := 6) (q0 := 0) rfl rfl, zw_go (hP.sub (ws' := wD h c (upd (upd (upd st.1 11 ((st.1 11) + (1 : Int32))) 21 (-1 : Int32)) 22 ((st.1 5) + (4 : Int32)), st.2.1, st.2.2.1, st.2.2.2.1, st.2.2.2.2.1, st.2.2.2.2.2)) [0, 1, 2, 3, 4, 5, 6, 7, 8] rfl) (hD.sub (ws' := wD h c (upd (upd (upd st.1 11 ((st.1 11) + (1 : Int32))) 21 (-1 : Int32)) 22 ((st.1 5) + (4 : Int32)), st.2.1, st.2.2.1, st.2.2.2.1, st.2.2.2.2.1, st.2.2.2.2.2)) [0, 1, 2, 3, 4, 5, 6, 7, 8] (by decide) rfl) (hK.sub (tys' := [(c 21, .long), (c 22, .int), (c 23, .int), (c 24, .int), (c 25, .int), (c 26, .int), (c 27, .int), (c 28, .int)]) [0, 1, 2, 3, 4, 5, 6, 7] rfl) (fun _ _ _ => trivial)⟩ rfl rfl hl.1 rfl (lv_room (Nat.le_of_ble_eq_true rfl)) d_D_step_73 ⟨Nat.le_of_ble_eq_true rfl, Nat.le_of_ble_eq_true rfl⟩) hP hD hS hA [0, 1, 2, 3, 4, 5, 6, 7, 8] [] [0, 1, 2, 3, 4, 5, 6, 7, 8] rfl rfl (by decide) (by decide) (by decide) (fun _ => rfl) (fun u_5 H locs hw hP hD hS => ?_)
    have eu_5 := hw
    have ok_5 : okV u_5 := by rw [eu_5]; exact (ov_traps hV)
    refine lv_aload_n hx hb d_D_step_76 rfl (lv_at hl 0 rfl) ?_
    refine lv_aload_n hx hb d_D_step_77 rfl (lv_at hl 0 rfl) ?_
    refine va_get (D := D) (ci := 6) (v := .int (u_5.1 4)) (C := "WindowMachineModel") (T := T_D) (N := 31) hx hb ht zi_D hown hK hP 0 rfl rfl 12 (by decide) (ht _ zw_866) (fun _ h9 => h9) rfl d_D_step_78 ?_
    refine lv_i2l (v := (u_5.1 4).toInt64) hx hb d_D_step_81 rfl ?_
    refine lv_lconst (v := (0 : Int64)) hx hb d_D_step_82 (by decide) ?_
    refine lv_ldc2 (v := (1020 : Int64)) hx hb hown (ht _ zw_960) d_D_step_83 ?_
    refine zc_i (w2 := fun _ => wD h c u_5) (va_runS (As := [.long ((u_5.1 4).toInt64), .long (0 : Int64), .long (1020 : Int64)]) (rest := [.ref (h 20)]) ⟨hx, hb, hml, hown, ht⟩ (mt_D_in l D H.size ((u_5.1 4).toInt64) (0 : Int64) (1020 : Int64)) (cwS 3 ht (zgS zw_961 zw_962 zw_7 zw_963) rfl rfl rfl kd_D_in ⟨Nat.le_of_ble_eq_true rfl, Nat.le_of_ble_eq_true rfl⟩) ⟨zw_blind zw_tt, zw_go (hP.sub (ws' := []) [] rfl) (hD.sub (ws' := []) [] (by decide) rfl) (hK.sub (tys' := []) [] rfl) (fun _ _ _ => trivial)⟩ rfl rfl hl.1 rfl (lv_room (Nat.le_of_ble_eq_true rfl)) d_D_step_86 ⟨Nat.le_of_ble_eq_true rfl, Nat.le_of_ble_eq_true rfl⟩) hP hD hS hA [] [0, 1, 2, 3, 4, 5, 6, 7, 8] [0, 1, 2, 3, 4, 5, 6, 7, 8] rfl rfl (by decide) (by decide) (by decide) (fun _ => rfl) (fun r_6 _ H locs hw hP hD hS => ?_)
    have er_6 := hw
    refine zcut (X := Int32) (G := fun v9 H locs ls => v9 = (if r_6 = (0 : Int32) then (1 : Int32) else (0 : Int32)) ∧ va_P D vwCl (wD h c u_5) H ∧ va_D A (wD h c u_5) ∧ va_S A s.heap H locs ∧ lv_has ls 7 [(0, .ref (h 20))]) (fr := fun v9 ls => F0 m 97 ls [.int v9, .ref (h 20)]) (fun J_8 => ?_) (fun v9 H locs ls hG => ?_)
    · refine lv_if_ne (tgt := 96) hx hb d_D_step_89 (by decide) (fun c_9 => ?_) (fun c_9 => ?_)
      · refine lv_iconst (v := (0 : Int32)) hx hb d_D_step_96 (by decide) ?_
        exact J_8 (0 : Int32) _ _ _ ⟨by simp only [if_neg c_9], hP, hD, hS, hl⟩
      refine lv_iconst (v := (1 : Int32)) hx hb d_D_step_92 (by decide) ?_
      refine lv_goto (tgt := 97) hx hb d_D_step_93 (by decide) ?_
      exact J_8 (1 : Int32) _ _ _ ⟨by simp only [if_pos c_9], hP, hD, hS, hl⟩
    obtain ⟨x_7, rfl⟩ : ∃ z, z = v9 := ⟨_, rfl⟩
    obtain ⟨ex_7, hP, hD, hS, hl⟩ := hG
    have zbx_7 : zB x_7 := by rw [ex_7]; repeat' first | with_reducible exact zB0 | with_reducible exact zB1 | with_reducible assumption | with_reducible refine zB_ite ?_ ?_
    refine lv_iconst (v := (1 : Int32)) hx hb d_D_step_97 (by decide) ?_
    refine zc_v (w2 := fun u9 => wD h c u9) (va_runV (As := [.int x_7, .int (1 : Int32)]) (rest := []) ⟨hx, hb, hml, hown, ht⟩ (mt_D_traps l D h c H.size u_5 x_7 (1 : Int32)) (cwV 2 ht (zgV zw_1007 zw_1009 zs_59 zw_7 zw_1010) rfl rfl rfl kd_D_traps ⟨Nat.le_of_ble_eq_true rfl, Nat.le_of_ble_eq_true rfl⟩) ⟨zw_blind zw_tt, va_recv (hK.sub (tys' := [(c 21, .long), (c 22, .int), (c 23, .int), (c 24, .int), (c 25, .int), (c 26, .int), (c 27, .int), (c 28, .int)]) [0, 1, 2, 3, 4, 5, 6, 7] rfl) (hP.sub (ws' := wD h c u_5) [0, 1, 2, 3, 4, 5, 6, 7, 8] rfl) (ci := 6) (q0 := 0) rfl rfl, zw_go (hP.sub (ws' := wD h c u_5) [0, 1, 2, 3, 4, 5, 6, 7, 8] rfl) (hD.sub (ws' := wD h c u_5) [0, 1, 2, 3, 4, 5, 6, 7, 8] (by decide) rfl) (hK.sub (tys' := [(c 21, .long), (c 22, .int), (c 23, .int), (c 24, .int), (c 25, .int), (c 26, .int), (c 27, .int), (c 28, .int)]) [0, 1, 2, 3, 4, 5, 6, 7] rfl) (fun _ _ _ => trivial)⟩ rfl rfl hl.1 rfl (lv_room (Nat.le_of_ble_eq_true rfl)) d_D_step_98 ⟨Nat.le_of_ble_eq_true rfl, Nat.le_of_ble_eq_true rfl⟩) hP hD hS hA [0, 1, 2, 3, 4, 5, 6, 7, 8] [] [0, 1, 2, 3, 4, 5, 6, 7, 8] rfl rfl (by decide) (by decide) (by decide) (fun _ => rfl) (fun u_10 H locs hw hP hD hS => ?_)
    have eu_10 := hw
    have ok_10 : okV u_10 := by rw [eu_10]; exact (ov_traps ok_5)
    refine lv_aload_n hx hb d_D_step_101 rfl (lv_at hl 0 rfl) ?_
    refine va_get (D := D) (ci := 6) (v := .int (u_10.1 21)) (C := "WindowMachineModel") (T := T_D) (N := 31) hx hb ht zi_D hown hK hP 0 rfl rfl 29 (by decide) (ht _ zw_883) (fun _ h9 => h9) rfl d_D_step_102 ?_
    refine lv_if_ge (tgt := 268) hx hb d_D_step_105 (by decide) (fun c_11 => ?_) (fun c_11 => ?_)
    · refine lv_aload_n hx hb d_D_step_268 rfl (lv_at hl 0 rfl) ?_
      refine va_get (D := D) (ci := 6) (v := .int (u_10.1 21)) (C := "WindowMachineModel") (T := T_D) (N := 31) hx hb ht zi_D hown hK hP 0 rfl rfl 29 (by decide) (ht _ zw_883) (fun _ h9 => h9) rfl d_D_step_269 ?_
      refine lv_if_lt (tgt := 280) hx hb d_D_step_272 (by decide) (fun c_12 => ?_) (fun c_12 => ?_)
      · refine lv_aload_n hx hb d_D_step_280 rfl (lv_at hl 0 rfl) ?_
        refine lv_aload_n hx hb d_D_step_281 rfl (lv_at hl 0 rfl) ?_
        refine va_get (D := D) (ci := 6) (v := .int (u_10.1 5)) (C := "WindowMachineModel") (T := T_D) (N := 31) hx hb ht zi_D hown hK hP 0 rfl rfl 13 (by decide) (ht _ zw_867) (fun _ h9 => h9) rfl d_D_step_282 ?_
        refine va_put (D := D) (ci := 6) (v := .int (u_10.1 5)) (ty := .int) (C := "WindowMachineModel") (T := T_D) (N := 31) hx hb ht zi_D ty_D tyok_D nm_D hown hK hP hD hS 0 rfl rfl 12 (by decide) (ht _ zw_866) (fun _ h9 => h9) rfl (by decide +kernel) rfl rfl (Nat.le_of_ble_eq_true rfl) d_D_step_285 (fun H locs hP hD hS => ?_)
        have hP : va_P D vwCl (wD h c (upd u_10.1 4 (u_10.1 5), u_10.2.1, u_10.2.2.1, u_10.2.2.2.1, u_10.2.2.2.2.1, u_10.2.2.2.2.2)) H := hP
        have hD : va_D A (wD h c (upd u_10.1 4 (u_10.1 5), u_10.2.1, u_10.2.2.1, u_10.2.2.2.1, u_10.2.2.2.2.1, u_10.2.2.2.2.2)) := hD
        refine lv_aload_n hx hb d_D_step_288 rfl (lv_at hl 0 rfl) ?_
        refine lv_aload_n hx hb d_D_step_289 rfl (lv_at hl 0 rfl) ?_
        refine va_get (D := D) (ci := 6) (v := .int (u_10.1 22)) (C := "WindowMachineModel") (T := T_D) (N := 31) hx hb ht zi_D hown hK hP 0 rfl rfl 30 (by decide) (ht _ zw_884) (fun _ h9 => h9) rfl d_D_step_290 ?_
        refine va_put (D := D) (ci := 6) (v := .int (u_10.1 22)) (ty := .int) (C := "WindowMachineModel") (T := T_D) (N := 31) hx hb ht zi_D ty_D tyok_D nm_D hown hK hP hD hS 0 rfl rfl 13 (by decide) (ht _ zw_867) (fun _ h9 => h9) rfl (by decide +kernel) rfl rfl (Nat.le_of_ble_eq_true rfl) d_D_step_293 (fun H locs hP hD hS => ?_)
        have hP : va_P D vwCl (wD h c (upd (upd u_10.1 4 (u_10.1 5)) 5 (u_10.1 22), u_10.2.1, u_10.2.2.1, u_10.2.2.2.1, u_10.2.2.2.2.1, u_10.2.2.2.2.2)) H := hP
        have hD : va_D A (wD h c (upd (upd u_10.1 4 (u_10.1 5)) 5 (u_10.1 22), u_10.2.1, u_10.2.2.1, u_10.2.2.2.1, u_10.2.2.2.2.1, u_10.2.2.2.2.2)) := hD
        exact zl_v (u := (upd (upd u_10.1 4 (u_10.1 5)) 5 (u_10.1 22), u_10.2.1, u_10.2.2.1, u_10.2.2.2.1, u_10.2.2.2.2.1, u_10.2.2.2.2.2)) hx hb hr hlocks hS hP hD (by simp only [m_step, ← ex_2, ← eu_5, ← er_6, ← ex_7, ← eu_10]; try simp only [if_pos c_1, if_pos c_11, if_pos c_12]) d_D_step_296
      refine lv_aload_n hx hb d_D_step_275 rfl (lv_at hl 0 rfl) ?_
      refine zc_v (w2 := fun u9 => wD h c u9) (va_runV (As := []) (rest := []) ⟨hx, hb, hml, hown, ht⟩ (mt_D_trapped l D h c H.size u_10 ok_10) (cwV 0 ht (zgV zw_1078 zw_1080 zs_73 zw_7 zw_1081) rfl rfl rfl kd_D_trapped ⟨Nat.le_of_ble_eq_true rfl, Nat.le_of_ble_eq_true rfl⟩) ⟨zw_blind zw_tt, va_recv (hK.sub (tys' := [(c 21, .long), (c 22, .int), (c 23, .int), (c 24, .int), (c 25, .int), (c 26, .int), (c 27, .int), (c 28, .int)]) [0, 1, 2, 3, 4, 5, 6, 7] rfl) (hP.sub (ws' := wD h c u_10) [0, 1, 2, 3, 4, 5, 6, 7, 8] rfl) (ci := 6) (q0 := 0) rfl rfl, zw_go (hP.sub (ws' := wD h c u_10) [0, 1, 2, 3, 4, 5, 6, 7, 8] rfl) (hD.sub (ws' := wD h c u_10) [0, 1, 2, 3, 4, 5, 6, 7, 8] (by decide) rfl) (hK.sub (tys' := [(c 21, .long), (c 22, .int), (c 23, .int), (c 24, .int), (c 25, .int), (c 26, .int), (c 27, .int), (c 28, .int)]) [0, 1, 2, 3, 4, 5, 6, 7] rfl) (fun _ _ _ => trivial)⟩ rfl rfl hl.1 rfl (lv_room (Nat.le_of_ble_eq_true rfl)) d_D_step_276 ⟨Nat.le_of_ble_eq_true rfl, Nat.le_of_ble_eq_true rfl⟩) hP hD hS hA [0, 1, 2, 3, 4, 5, 6, 7, 8] [] [0, 1, 2, 3, 4, 5, 6, 7, 8] rfl rfl (by decide) (by decide) (by decide) (fun _ => rfl) (fun u_13 H locs hw hP hD hS => ?_)
      have eu_13 := hw
      exact zl_v (u := u_13) hx hb hr hlocks hS hP hD (by simp only [m_step, ← ex_2, ← eu_5, ← er_6, ← ex_7, ← eu_10, ← eu_13]; try simp only [if_pos c_1, if_pos c_11, if_neg c_12]) d_D_step_279
    refine lv_aload_n hx hb d_D_step_108 rfl (lv_at hl 0 rfl) ?_
    refine lv_aload_n hx hb d_D_step_109 rfl (lv_at hl 0 rfl) ?_
    refine va_get (D := D) (ci := 6) (v := .int (u_10.1 4)) (C := "WindowMachineModel") (T := T_D) (N := 31) hx hb ht zi_D hown hK hP 0 rfl rfl 12 (by decide) (ht _ zw_866) (fun _ h9 => h9) rfl d_D_step_110 ?_
    refine lv_iconst (v := (4 : Int32)) hx hb d_D_step_113 (by decide) ?_
    refine zc_i (w2 := fun _ => wD h c u_10) (va_runV (As := [.int (u_10.1 4), .int (4 : Int32)]) (rest := []) ⟨hx, hb, hml, hown, ht⟩ (mt_D_take l D h c H.size u_10 (u_10.1 4) (4 : Int32) (st_pc er_6 ex_7 eu_10 c_11)) (cwV 2 ht (zgV zw_968 zw_970 zs_54 zw_7 zw_971) rfl rfl rfl kd_D_take ⟨Nat.le_of_ble_eq_true rfl, Nat.le_of_ble_eq_true rfl⟩) ⟨zw_blind zw_tt, va_recv (hK.sub (tys' := [(c 21, .long), (c 22, .int), (c 23, .int), (c 24, .int), (c 25, .int), (c 26, .int), (c 27, .int), (c 28, .int)]) [0, 1, 2, 3, 4, 5, 6, 7] rfl) (hP.sub (ws' := wD h c u_10) [0, 1, 2, 3, 4, 5, 6, 7, 8] rfl) (ci := 6) (q0 := 0) rfl rfl, zw_go (hP.sub (ws' := wD h c u_10) [0, 1, 2, 3, 4, 5, 6, 7, 8] rfl) (hD.sub (ws' := wD h c u_10) [0, 1, 2, 3, 4, 5, 6, 7, 8] (by decide) rfl) (hK.sub (tys' := [(c 21, .long), (c 22, .int), (c 23, .int), (c 24, .int), (c 25, .int), (c 26, .int), (c 27, .int), (c 28, .int)]) [0, 1, 2, 3, 4, 5, 6, 7] rfl) (fun _ _ _ => trivial)⟩ rfl rfl hl.1 rfl (lv_room (Nat.le_of_ble_eq_true rfl)) d_D_step_114 ⟨Nat.le_of_ble_eq_true rfl, Nat.le_of_ble_eq_true rfl⟩) hP hD hS hA [0, 1, 2, 3, 4, 5, 6, 7, 8] [] [0, 1, 2, 3, 4, 5, 6, 7, 8] rfl rfl (by decide) (by decide) (by decide) (fun _ => rfl) (fun r_14 _ H locs hw hP hD hS => ?_)
    have er_14 := hw
    refine lv_istore_n (lv' := [(1, .int r_14), (0, .ref (h 20))]) hx hb d_D_step_117 rfl hl (by decide) rfl (fun ls hl => ?_)
    refine lv_iload_n hx hb d_D_step_118 rfl (lv_at hl 0 rfl) ?_
    refine lv_bipush (v := (30 : Int32)) hx hb d_D_step_119 (by decide) ?_
    refine lv_iushr (v := zushr r_14 (30 : Int32)) hx hb d_D_step_121 rfl ?_
    refine lv_istore_n (lv' := [(2, .int (zushr r_14 (30 : Int32))), (1, .int r_14), (0, .ref (h 20))]) hx hb d_D_step_122 rfl hl (by decide) rfl (fun ls hl => ?_)
    refine lv_iload_n hx hb d_D_step_123 rfl (lv_at hl 1 rfl) ?_
    refine lv_bipush (v := (25 : Int32)) hx hb d_D_step_124 (by decide) ?_
    refine lv_ishr hx hb d_D_step_126 ?_
    refine lv_bipush (v := (31 : Int32)) hx hb d_D_step_127 (by decide) ?_
    refine lv_iand hx hb d_D_step_129 ?_
    refine lv_topi (fun x_15 ex_15 => ?_)
    refine lv_istore_n (lv' := [(3, .int x_15), (2, .int (zushr r_14 (30 : Int32))), (1, .int r_14), (0, .ref (h 20))]) hx hb d_D_step_130 rfl hl (by decide) rfl (fun ls hl => ?_)
    refine lv_iload_n hx hb d_D_step_131 rfl (lv_at hl 2 rfl) ?_
    refine lv_bipush (v := (19 : Int32)) hx hb d_D_step_132 (by decide) ?_
    refine lv_ishr hx hb d_D_step_134 ?_
    refine lv_bipush (v := (63 : Int32)) hx hb d_D_step_135 (by decide) ?_
    refine lv_iand hx hb d_D_step_137 ?_
    refine lv_topi (fun x_16 ex_16 => ?_)
    refine lv_istore (lv' := [(4, .int x_16), (3, .int x_15), (2, .int (zushr r_14 (30 : Int32))), (1, .int r_14), (0, .ref (h 20))]) hx hb d_D_step_138 hl (by decide) rfl (fun ls hl => ?_)
    refine lv_iload_n hx hb d_D_step_140 rfl (lv_at hl 3 rfl) ?_
    refine lv_bipush (v := (14 : Int32)) hx hb d_D_step_141 (by decide) ?_
    refine lv_ishr hx hb d_D_step_143 ?_
    refine lv_bipush (v := (31 : Int32)) hx hb d_D_step_144 (by decide) ?_
    refine lv_iand hx hb d_D_step_146 ?_
    refine lv_topi (fun x_17 ex_17 => ?_)
    refine lv_istore (lv' := [(5, .int x_17), (4, .int x_16), (3, .int x_15), (2, .int (zushr r_14 (30 : Int32))), (1, .int r_14), (0, .ref (h 20))]) hx hb d_D_step_147 hl (by decide) rfl (fun ls hl => ?_)
    refine lv_iload_n hx hb d_D_step_149 rfl (lv_at hl 4 rfl) ?_
    refine lv_bipush (v := (13 : Int32)) hx hb d_D_step_150 (by decide) ?_
    refine lv_ishr hx hb d_D_step_152 ?_
    refine lv_iconst (v := (1 : Int32)) hx hb d_D_step_153 (by decide) ?_
    refine lv_iand hx hb d_D_step_154 ?_
    refine lv_iconst (v := (1 : Int32)) hx hb d_D_step_155 (by decide) ?_
    refine zcut (X := Int32) (G := fun v9 H locs ls => v9 = (if ((r_14 >>> ((13 : Int32) &&& 31)) &&& (1 : Int32)) = (1 : Int32) then (r_14 <<< ((19 : Int32) &&& 31)) >>> ((19 : Int32) &&& 31) else m_get u_10 (r_14 &&& (31 : Int32)) (u_10.1 6)) ∧ va_P D vwCl (wD h c u_10) H ∧ va_D A (wD h c u_10) ∧ va_S A s.heap H locs ∧ lv_has ls 7 [(0, .ref (h 20)), (1, .int r_14), (2, .int (zushr r_14 (30 : Int32))), (3, .int x_15), (4, .int x_16), (5, .int x_17)]) (fr := fun v9 ls => F0 m 181 ls [.int v9]) (fun J_19 => ?_) (fun v9 H locs ls hG => ?_)
    · refine lv_icmp_ne (tgt := 169) hx hb d_D_step_156 (by decide) (fun c_20 => ?_) (fun c_20 => ?_)
      · refine lv_aload_n hx hb d_D_step_169 rfl (lv_at hl 5 rfl) ?_
        refine lv_iload_n hx hb d_D_step_170 rfl (lv_at hl 4 rfl) ?_
        refine lv_bipush (v := (31 : Int32)) hx hb d_D_step_171 (by decide) ?_
        refine lv_iand hx hb d_D_step_173 ?_
        refine lv_aload_n hx hb d_D_step_174 rfl (lv_at hl 5 rfl) ?_
        refine va_get (D := D) (ci := 6) (v := .int (u_10.1 6)) (C := "WindowMachineModel") (T := T_D) (N := 31) hx hb ht zi_D hown hK hP 0 rfl rfl 14 (by decide) (ht _ zw_868) (fun _ h9 => h9) rfl d_D_step_175 ?_
        refine zc_i (w2 := fun _ => wD h c u_10) (va_runV (As := [.int (r_14 &&& (31 : Int32)), .int (u_10.1 6)]) (rest := []) ⟨hx, hb, hml, hown, ht⟩ (mt_D_get l D h c H.size u_10 (r_14 &&& (31 : Int32)) (u_10.1 6) (a31_in _) (ok_10).1) (cwV 2 ht (zgV zw_986 zw_988 zs_56 zw_7 zw_989) rfl rfl rfl kd_D_get ⟨Nat.le_of_ble_eq_true rfl, Nat.le_of_ble_eq_true rfl⟩) ⟨zw_blind zw_tt, va_recv (hK.sub (tys' := [(c 21, .long), (c 22, .int), (c 23, .int), (c 24, .int), (c 25, .int), (c 26, .int), (c 27, .int), (c 28, .int)]) [0, 1, 2, 3, 4, 5, 6, 7] rfl) (hP.sub (ws' := wD h c u_10) [0, 1, 2, 3, 4, 5, 6, 7, 8] rfl) (ci := 6) (q0 := 0) rfl rfl, zw_go (hP.sub (ws' := wD h c u_10) [0, 1, 2, 3, 4, 5, 6, 7, 8] rfl) (hD.sub (ws' := wD h c u_10) [0, 1, 2, 3, 4, 5, 6, 7, 8] (by decide) rfl) (hK.sub (tys' := [(c 21, .long), (c 22, .int), (c 23, .int), (c 24, .int), (c 25, .int), (c 26, .int), (c 27, .int), (c 28, .int)]) [0, 1, 2, 3, 4, 5, 6, 7] rfl) (fun _ _ _ => trivial)⟩ rfl rfl hl.1 rfl (lv_room (Nat.le_of_ble_eq_true rfl)) d_D_step_178 ⟨Nat.le_of_ble_eq_true rfl, Nat.le_of_ble_eq_true rfl⟩) hP hD hS hA [0, 1, 2, 3, 4, 5, 6, 7, 8] [] [0, 1, 2, 3, 4, 5, 6, 7, 8] rfl rfl (by decide) (by decide) (by decide) (fun _ => rfl) (fun r_21 _ H locs hw hP hD hS => ?_)
        subst hw
        exact J_19 (m_get u_10 (r_14 &&& (31 : Int32)) (u_10.1 6)) _ _ _ ⟨by simp only [if_neg c_20], hP, hD, hS, (lv_sub hl [5, 4, 3, 2, 1, 0] rfl)⟩
      refine lv_iload_n hx hb d_D_step_159 rfl (lv_at hl 4 rfl) ?_
      refine lv_bipush (v := (19 : Int32)) hx hb d_D_step_160 (by decide) ?_
      refine lv_ishl hx hb d_D_step_162 ?_
      refine lv_bipush (v := (19 : Int32)) hx hb d_D_step_163 (by decide) ?_
      refine lv_ishr hx hb d_D_step_165 ?_
      refine lv_goto (tgt := 181) hx hb d_D_step_166 (by decide) ?_
      exact J_19 ((r_14 <<< ((19 : Int32) &&& 31)) >>> ((19 : Int32) &&& 31)) _ _ _ ⟨by simp only [if_pos c_20], hP, hD, hS, (lv_sub hl [5, 4, 3, 2, 1, 0] rfl)⟩
    obtain ⟨x_18, rfl⟩ : ∃ z, z = v9 := ⟨_, rfl⟩
    obtain ⟨ex_18, hP, hD, hS, hl⟩ := hG
    refine lv_istore (lv' := [(6, .int x_18), (0, .ref (h 20)), (1, .int r_14), (2, .int (zushr r_14 (30 : Int32))), (3, .int x_15), (4, .int x_16), (5, .int x_17)]) hx hb d_D_step_181 hl (by decide) rfl (fun ls hl => ?_)
    refine lv_iload_n hx hb d_D_step_183 rfl (lv_at hl 3 rfl) ?_
    refine lv_iconst (v := (1 : Int32)) hx hb d_D_step_184 (by decide) ?_
    refine lv_icmp_ne (tgt := 217) hx hb d_D_step_185 (by decide) (fun c_22 => ?_) (fun c_22 => ?_)
    · refine lv_iload_n hx hb d_D_step_217 rfl (lv_at hl 3 rfl) ?_
      refine lv_if_ne (tgt := 229) hx hb d_D_step_218 (by decide) (fun c_23 => ?_) (fun c_23 => ?_)
      · refine lv_iload_n hx hb d_D_step_229 rfl (lv_at hl 3 rfl) ?_
        refine lv_iconst (v := (2 : Int32)) hx hb d_D_step_230 (by decide) ?_
        refine lv_icmp_ne (tgt := 248) hx hb d_D_step_231 (by decide) (fun c_24 => ?_) (fun c_24 => ?_)
        · refine lv_aload_n hx hb d_D_step_248 rfl (lv_at hl 1 rfl) ?_
          refine lv_iload_n hx hb d_D_step_249 rfl (lv_at hl 4 rfl) ?_
          refine lv_iload hx hb d_D_step_250 (lv_at hl 5 rfl) ?_
          refine lv_aload_n hx hb d_D_step_252 rfl (lv_at hl 1 rfl) ?_
          refine lv_iload hx hb d_D_step_253 (lv_at hl 6 rfl) ?_
          refine lv_aload_n hx hb d_D_step_255 rfl (lv_at hl 1 rfl) ?_
          refine va_get (D := D) (ci := 6) (v := .int (u_10.1 6)) (C := "WindowMachineModel") (T := T_D) (N := 31) hx hb ht zi_D hown hK hP 0 rfl rfl 14 (by decide) (ht _ zw_868) (fun _ h9 => h9) rfl d_D_step_256 ?_
          refine zc_i (w2 := fun _ => wD h c u_10) (va_runV (As := [.int x_17, .int (u_10.1 6)]) (rest := [.int x_16, .int x_15, .ref (h 20)]) ⟨hx, hb, hml, hown, ht⟩ (mt_D_get l D h c H.size u_10 x_17 (u_10.1 6) (bx_in ex_17) (ok_10).1) (cwV 2 ht (zgV zw_986 zw_988 zs_56 zw_7 zw_989) rfl rfl rfl kd_D_get ⟨Nat.le_of_ble_eq_true rfl, Nat.le_of_ble_eq_true rfl⟩) ⟨zw_blind zw_tt, va_recv (hK.sub (tys' := [(c 21, .long), (c 22, .int), (c 23, .int), (c 24, .int), (c 25, .int), (c 26, .int), (c 27, .int), (c 28, .int)]) [0, 1, 2, 3, 4, 5, 6, 7] rfl) (hP.sub (ws' := wD h c u_10) [0, 1, 2, 3, 4, 5, 6, 7, 8] rfl) (ci := 6) (q0 := 0) rfl rfl, zw_go (hP.sub (ws' := wD h c u_10) [0, 1, 2, 3, 4, 5, 6, 7, 8] rfl) (hD.sub (ws' := wD h c u_10) [0, 1, 2, 3, 4, 5, 6, 7, 8] (by decide) rfl) (hK.sub (tys' := [(c 21, .long), (c 22, .int), (c 23, .int), (c 24, .int), (c 25, .int), (c 26, .int), (c 27, .int), (c 28, .int)]) [0, 1, 2, 3, 4, 5, 6, 7] rfl) (fun _ _ _ => trivial)⟩ rfl rfl hl.1 rfl (lv_room (Nat.le_of_ble_eq_true rfl)) d_D_step_259 ⟨Nat.le_of_ble_eq_true rfl, Nat.le_of_ble_eq_true rfl⟩) hP hD hS hA [0, 1, 2, 3, 4, 5, 6, 7, 8] [] [0, 1, 2, 3, 4, 5, 6, 7, 8] rfl rfl (by decide) (by decide) (by decide) (fun _ => rfl) (fun r_25 _ H locs hw hP hD hS => ?_)
          have er_25 := hw
          refine lv_iload hx hb d_D_step_262 (lv_at hl 0 rfl) ?_
          refine lv_iadd hx hb d_D_step_264 ?_
          refine zc_v (w2 := fun u9 => wD h c u9) (va_runV (As := [.int x_15, .int x_16, .int (r_25 + x_18)]) (rest := []) ⟨hx, hb, hml, hown, ht⟩ (mt_D_memoryWord l D h c H.size u_10 x_15 x_16 (r_25 + x_18) ok_10 (bx_in ex_15)) (cwV 3 ht (zgV zw_1074 zw_1076 zs_72 zw_7 zw_1077) rfl rfl rfl kd_D_memoryWord ⟨Nat.le_of_ble_eq_true rfl, Nat.le_of_ble_eq_true rfl⟩) ⟨zw_blind zw_tt, va_recv (hK.sub (tys' := [(c 21, .long), (c 22, .int), (c 23, .int), (c 24, .int), (c 25, .int), (c 26, .int), (c 27, .int), (c 28, .int)]) [0, 1, 2, 3, 4, 5, 6, 7] rfl) (hP.sub (ws' := wD h c u_10) [0, 1, 2, 3, 4, 5, 6, 7, 8] rfl) (ci := 6) (q0 := 0) rfl rfl, zw_go (hP.sub (ws' := wD h c u_10) [0, 1, 2, 3, 4, 5, 6, 7, 8] rfl) (hD.sub (ws' := wD h c u_10) [0, 1, 2, 3, 4, 5, 6, 7, 8] (by decide) rfl) (hK.sub (tys' := [(c 21, .long), (c 22, .int), (c 23, .int), (c 24, .int), (c 25, .int), (c 26, .int), (c 27, .int), (c 28, .int)]) [0, 1, 2, 3, 4, 5, 6, 7] rfl) (fun _ _ _ => trivial)⟩ rfl rfl hl.1 rfl (lv_room (Nat.le_of_ble_eq_true rfl)) d_D_step_265 ⟨Nat.le_of_ble_eq_true rfl, Nat.le_of_ble_eq_true rfl⟩) hP hD hS hA [0, 1, 2, 3, 4, 5, 6, 7, 8] [] [0, 1, 2, 3, 4, 5, 6, 7, 8] rfl rfl (by decide) (by decide) (by decide) (fun _ => rfl) (fun u_26 H locs hw hP hD hS => ?_)
          have eu_26 := hw
          have ok_26 : okV u_26 := by rw [eu_26]; exact (ov_memoryWord ok_10)
          refine lv_aload_n hx hb d_D_step_268 rfl (lv_at hl 1 rfl) ?_
          refine va_get (D := D) (ci := 6) (v := .int (u_26.1 21)) (C := "WindowMachineModel") (T := T_D) (N := 31) hx hb ht zi_D hown hK hP 0 rfl rfl 29 (by decide) (ht _ zw_883) (fun _ h9 => h9) rfl d_D_step_269 ?_
          refine lv_if_lt (tgt := 280) hx hb d_D_step_272 (by decide) (fun c_27 => ?_) (fun c_27 => ?_)
          · refine lv_aload_n hx hb d_D_step_280 rfl (lv_at hl 1 rfl) ?_
            refine lv_aload_n hx hb d_D_step_281 rfl (lv_at hl 1 rfl) ?_
            refine va_get (D := D) (ci := 6) (v := .int (u_26.1 5)) (C := "WindowMachineModel") (T := T_D) (N := 31) hx hb ht zi_D hown hK hP 0 rfl rfl 13 (by decide) (ht _ zw_867) (fun _ h9 => h9) rfl d_D_step_282 ?_
            refine va_put (D := D) (ci := 6) (v := .int (u_26.1 5)) (ty := .int) (C := "WindowMachineModel") (T := T_D) (N := 31) hx hb ht zi_D ty_D tyok_D nm_D hown hK hP hD hS 0 rfl rfl 12 (by decide) (ht _ zw_866) (fun _ h9 => h9) rfl (by decide +kernel) rfl rfl (Nat.le_of_ble_eq_true rfl) d_D_step_285 (fun H locs hP hD hS => ?_)
            have hP : va_P D vwCl (wD h c (upd u_26.1 4 (u_26.1 5), u_26.2.1, u_26.2.2.1, u_26.2.2.2.1, u_26.2.2.2.2.1, u_26.2.2.2.2.2)) H := hP
            have hD : va_D A (wD h c (upd u_26.1 4 (u_26.1 5), u_26.2.1, u_26.2.2.1, u_26.2.2.2.1, u_26.2.2.2.2.1, u_26.2.2.2.2.2)) := hD
            refine lv_aload_n hx hb d_D_step_288 rfl (lv_at hl 1 rfl) ?_
            refine lv_aload_n hx hb d_D_step_289 rfl (lv_at hl 1 rfl) ?_
            refine va_get (D := D) (ci := 6) (v := .int (u_26.1 22)) (C := "WindowMachineModel") (T := T_D) (N := 31) hx hb ht zi_D hown hK hP 0 rfl rfl 30 (by decide) (ht _ zw_884) (fun _ h9 => h9) rfl d_D_step_290 ?_
            refine va_put (D := D) (ci := 6) (v := .int (u_26.1 22)) (ty := .int) (C := "WindowMachineModel") (T := T_D) (N := 31) hx hb ht zi_D ty_D tyok_D nm_D hown hK hP hD hS 0 rfl rfl 13 (by decide) (ht _ zw_867) (fun _ h9 => h9) rfl (by decide +kernel) rfl rfl (Nat.le_of_ble_eq_true rfl) d_D_step_293 (fun H locs hP hD hS => ?_)
            have hP : va_P D vwCl (wD h c (upd (upd u_26.1 4 (u_26.1 5)) 5 (u_26.1 22), u_26.2.1, u_26.2.2.1, u_26.2.2.2.1, u_26.2.2.2.2.1, u_26.2.2.2.2.2)) H := hP
            have hD : va_D A (wD h c (upd (upd u_26.1 4 (u_26.1 5)) 5 (u_26.1 22), u_26.2.1, u_26.2.2.1, u_26.2.2.2.1, u_26.2.2.2.2.1, u_26.2.2.2.2.2)) := hD
            exact zl_v (u := (upd (upd u_26.1 4 (u_26.1 5)) 5 (u_26.1 22), u_26.2.1, u_26.2.2.1, u_26.2.2.2.1, u_26.2.2.2.2.1, u_26.2.2.2.2.2)) hx hb hr hlocks hS hP hD (by simp only [m_step, ← ex_2, ← eu_5, ← er_6, ← ex_7, ← eu_10, ← er_14, ← ex_15, ← ex_16, ← ex_17, ← ex_18, ← er_25, ← eu_26]; try simp only [if_pos c_1, if_neg c_11, if_neg c_22, if_neg c_23, if_neg c_24, if_pos c_27]) d_D_step_296
          refine lv_aload_n hx hb d_D_step_275 rfl (lv_at hl 1 rfl) ?_
          refine zc_v (w2 := fun u9 => wD h c u9) (va_runV (As := []) (rest := []) ⟨hx, hb, hml, hown, ht⟩ (mt_D_trapped l D h c H.size u_26 ok_26) (cwV 0 ht (zgV zw_1078 zw_1080 zs_73 zw_7 zw_1081) rfl rfl rfl kd_D_trapped ⟨Nat.le_of_ble_eq_true rfl, Nat.le_of_ble_eq_true rfl⟩) ⟨zw_blind zw_tt, va_recv (hK.sub (tys' := [(c 21, .long), (c 22, .int), (c 23, .int), (c 24, .int), (c 25, .int), (c 26, .int), (c 27, .int), (c 28, .int)]) [0, 1, 2, 3, 4, 5, 6, 7] rfl) (hP.sub (ws' := wD h c u_26) [0, 1, 2, 3, 4, 5, 6, 7, 8] rfl) (ci := 6) (q0 := 0) rfl rfl, zw_go (hP.sub (ws' := wD h c u_26) [0, 1, 2, 3, 4, 5, 6, 7, 8] rfl) (hD.sub (ws' := wD h c u_26) [0, 1, 2, 3, 4, 5, 6, 7, 8] (by decide) rfl) (hK.sub (tys' := [(c 21, .long), (c 22, .int), (c 23, .int), (c 24, .int), (c 25, .int), (c 26, .int), (c 27, .int), (c 28, .int)]) [0, 1, 2, 3, 4, 5, 6, 7] rfl) (fun _ _ _ => trivial)⟩ rfl rfl hl.1 rfl (lv_room (Nat.le_of_ble_eq_true rfl)) d_D_step_276 ⟨Nat.le_of_ble_eq_true rfl, Nat.le_of_ble_eq_true rfl⟩) hP hD hS hA [0, 1, 2, 3, 4, 5, 6, 7, 8] [] [0, 1, 2, 3, 4, 5, 6, 7, 8] rfl rfl (by decide) (by decide) (by decide) (fun _ => rfl) (fun u_28 H locs hw hP hD hS => ?_)
          have eu_28 := hw
          exact zl_v (u := u_28) hx hb hr hlocks hS hP hD (by simp only [m_step, ← ex_2, ← eu_5, ← er_6, ← ex_7, ← eu_10, ← er_14, ← ex_15, ← ex_16, ← ex_17, ← ex_18, ← er_25, ← eu_26, ← eu_28]; try simp only [if_pos c_1, if_neg c_11, if_neg c_22, if_neg c_23, if_neg c_24, if_neg c_27]) d_D_step_279
        refine lv_aload_n hx hb d_D_step_234 rfl (lv_at hl 1 rfl) ?_
        refine lv_iload_n hx hb d_D_step_235 rfl (lv_at hl 4 rfl) ?_
        refine lv_iload hx hb d_D_step_236 (lv_at hl 5 rfl) ?_
        refine lv_iload hx hb d_D_step_238 (lv_at hl 6 rfl) ?_
        refine lv_iload hx hb d_D_step_240 (lv_at hl 0 rfl) ?_
        refine zc_v (w2 := fun u9 => wD h c u9) (va_runV (As := [.int x_15, .int x_16, .int x_17, .int x_18]) (rest := []) ⟨hx, hb, hml, hown, ht⟩ (mt_D_middle l D h c H.size u_10 x_15 x_16 x_17 x_18 ok_10 (bx_in ex_15) (bx_in ex_17)) (cwV 4 ht (zgV zw_1023 zw_1025 zs_63 zw_7 zw_1026) rfl rfl rfl kd_D_middle ⟨Nat.le_of_ble_eq_true rfl, Nat.le_of_ble_eq_true rfl⟩) ⟨zw_blind zw_tt, va_recv (hK.sub (tys' := [(c 21, .long), (c 22, .int), (c 23, .int), (c 24, .int), (c 25, .int), (c 26, .int), (c 27, .int), (c 28, .int)]) [0, 1, 2, 3, 4, 5, 6, 7] rfl) (hP.sub (ws' := wD h c u_10) [0, 1, 2, 3, 4, 5, 6, 7, 8] rfl) (ci := 6) (q0 := 0) rfl rfl, zw_go (hP.sub (ws' := wD h c u_10) [0, 1, 2, 3, 4, 5, 6, 7, 8] rfl) (hD.sub (ws' := wD h c u_10) [0, 1, 2, 3, 4, 5, 6, 7, 8] (by decide) rfl) (hK.sub (tys' := [(c 21, .long), (c 22, .int), (c 23, .int), (c 24, .int), (c 25, .int), (c 26, .int), (c 27, .int), (c 28, .int)]) [0, 1, 2, 3, 4, 5, 6, 7] rfl) (fun _ _ _ => trivial)⟩ rfl rfl hl.1 rfl (lv_room (Nat.le_of_ble_eq_true rfl)) d_D_step_242 ⟨Nat.le_of_ble_eq_true rfl, Nat.le_of_ble_eq_true rfl⟩) hP hD hS hA [0, 1, 2, 3, 4, 5, 6, 7, 8] [] [0, 1, 2, 3, 4, 5, 6, 7, 8] rfl rfl (by decide) (by decide) (by decide) (fun _ => rfl) (fun u_29 H locs hw hP hD hS => ?_)
        have eu_29 := hw
        have ok_29 : okV u_29 := by rw [eu_29]; exact (ov_middle ok_10)
        refine lv_goto (tgt := 268) hx hb d_D_step_245 (by decide) ?_
        refine lv_aload_n hx hb d_D_step_268 rfl (lv_at hl 1 rfl) ?_
        refine va_get (D := D) (ci := 6) (v := .int (u_29.1 21)) (C := "WindowMachineModel") (T := T_D) (N := 31) hx hb ht zi_D hown hK hP 0 rfl rfl 29 (by decide) (ht _ zw_883) (fun _ h9 => h9) rfl d_D_step_269 ?_
        refine lv_if_lt (tgt := 280) hx hb d_D_step_272 (by decide) (fun c_30 => ?_) (fun c_30 => ?_)
        · refine lv_aload_n hx hb d_D_step_280 rfl (lv_at hl 1 rfl) ?_
          refine lv_aload_n hx hb d_D_step_281 rfl (lv_at hl 1 rfl) ?_
          refine va_get (D := D) (ci := 6) (v := .int (u_29.1 5)) (C := "WindowMachineModel") (T := T_D) (N := 31) hx hb ht zi_D hown hK hP 0 rfl rfl 13 (by decide) (ht _ zw_867) (fun _ h9 => h9) rfl d_D_step_282 ?_
          refine va_put (D := D) (ci := 6) (v := .int (u_29.1 5)) (ty := .int) (C := "WindowMachineModel") (T := T_D) (N := 31) hx hb ht zi_D ty_D tyok_D nm_D hown hK hP hD hS 0 rfl rfl 12 (by decide) (ht _ zw_866) (fun _ h9 => h9) rfl (by decide +kernel) rfl rfl (Nat.le_of_ble_eq_true rfl) d_D_step_285 (fun H locs hP hD hS => ?_)
          have hP : va_P D vwCl (wD h c (upd u_29.1 4 (u_29.1 5), u_29.2.1, u_29.2.2.1, u_29.2.2.2.1, u_29.2.2.2.2.1, u_29.2.2.2.2.2)) H := hP
          have hD : va_D A (wD h c (upd u_29.1 4 (u_29.1 5), u_29.2.1, u_29.2.2.1, u_29.2.2.2.1, u_29.2.2.2.2.1, u_29.2.2.2.2.2)) := hD
          refine lv_aload_n hx hb d_D_step_288 rfl (lv_at hl 1 rfl) ?_
          refine lv_aload_n hx hb d_D_step_289 rfl (lv_at hl 1 rfl) ?_
          refine va_get (D := D) (ci := 6) (v := .int (u_29.1 22)) (C := "WindowMachineModel") (T := T_D) (N := 31) hx hb ht zi_D hown hK hP 0 rfl rfl 30 (by decide) (ht _ zw_884) (fun _ h9 => h9) rfl d_D_step_290 ?_
          refine va_put (D := D) (ci := 6) (v := .int (u_29.1 22)) (ty := .int) (C := "WindowMachineModel") (T := T_D) (N := 31) hx hb ht zi_D ty_D tyok_D nm_D hown hK hP hD hS 0 rfl rfl 13 (by decide) (ht _ zw_867) (fun _ h9 => h9) rfl (by decide +kernel) rfl rfl (Nat.le_of_ble_eq_true rfl) d_D_step_293 (fun H locs hP hD hS => ?_)
          have hP : va_P D vwCl (wD h c (upd (upd u_29.1 4 (u_29.1 5)) 5 (u_29.1 22), u_29.2.1, u_29.2.2.1, u_29.2.2.2.1, u_29.2.2.2.2.1, u_29.2.2.2.2.2)) H := hP
          have hD : va_D A (wD h c (upd (upd u_29.1 4 (u_29.1 5)) 5 (u_29.1 22), u_29.2.1, u_29.2.2.1, u_29.2.2.2.1, u_29.2.2.2.2.1, u_29.2.2.2.2.2)) := hD
          exact zl_v (u := (upd (upd u_29.1 4 (u_29.1 5)) 5 (u_29.1 22), u_29.2.1, u_29.2.2.1, u_29.2.2.2.1, u_29.2.2.2.2.1, u_29.2.2.2.2.2)) hx hb hr hlocks hS hP hD (by simp only [m_step, ← ex_2, ← eu_5, ← er_6, ← ex_7, ← eu_10, ← er_14, ← ex_15, ← ex_16, ← ex_17, ← ex_18, ← eu_29]; try simp only [if_pos c_1, if_neg c_11, if_neg c_22, if_neg c_23, if_pos c_24, if_pos c_30]) d_D_step_296
        refine lv_aload_n hx hb d_D_step_275 rfl (lv_at hl 1 rfl) ?_
        refine zc_v (w2 := fun u9 => wD h c u9) (va_runV (As := []) (rest := []) ⟨hx, hb, hml, hown, ht⟩ (mt_D_trapped l D h c H.size u_29 ok_29) (cwV 0 ht (zgV zw_1078 zw_1080 zs_73 zw_7 zw_1081) rfl rfl rfl kd_D_trapped ⟨Nat.le_of_ble_eq_true rfl, Nat.le_of_ble_eq_true rfl⟩) ⟨zw_blind zw_tt, va_recv (hK.sub (tys' := [(c 21, .long), (c 22, .int), (c 23, .int), (c 24, .int), (c 25, .int), (c 26, .int), (c 27, .int), (c 28, .int)]) [0, 1, 2, 3, 4, 5, 6, 7] rfl) (hP.sub (ws' := wD h c u_29) [0, 1, 2, 3, 4, 5, 6, 7, 8] rfl) (ci := 6) (q0 := 0) rfl rfl, zw_go (hP.sub (ws' := wD h c u_29) [0, 1, 2, 3, 4, 5, 6, 7, 8] rfl) (hD.sub (ws' := wD h c u_29) [0, 1, 2, 3, 4, 5, 6, 7, 8] (by decide) rfl) (hK.sub (tys' := [(c 21, .long), (c 22, .int), (c 23, .int), (c 24, .int), (c 25, .int), (c 26, .int), (c 27, .int), (c 28, .int)]) [0, 1, 2, 3, 4, 5, 6, 7] rfl) (fun _ _ _ => trivial)⟩ rfl rfl hl.1 rfl (lv_room (Nat.le_of_ble_eq_true rfl)) d_D_step_276 ⟨Nat.le_of_ble_eq_true rfl, Nat.le_of_ble_eq_true rfl⟩) hP hD hS hA [0, 1, 2, 3, 4, 5, 6, 7, 8] [] [0, 1, 2, 3, 4, 5, 6, 7, 8] rfl rfl (by decide) (by decide) (by decide) (fun _ => rfl) (fun u_31 H locs hw hP hD hS => ?_)
        have eu_31 := hw
        exact zl_v (u := u_31) hx hb hr hlocks hS hP hD (by simp only [m_step, ← ex_2, ← eu_5, ← er_6, ← ex_7, ← eu_10, ← er_14, ← ex_15, ← ex_16, ← ex_17, ← ex_18, ← eu_29, ← eu_31]; try simp only [if_pos c_1, if_neg c_11, if_neg c_22, if_neg c_23, if_pos c_24, if_neg c_30]) d_D_step_279
      refine lv_aload_n hx hb d_D_step_221 rfl (lv_at hl 1 rfl) ?_
      refine lv_iload_n hx hb d_D_step_222 rfl (lv_at hl 2 rfl) ?_
      refine zc_v (w2 := fun u9 => wD h c u9) (va_runV (As := [.int r_14]) (rest := []) ⟨hx, hb, hml, hown, ht⟩ (mt_D_low l D h c H.size u_10 r_14 ok_10) (cwV 1 ht (zgV zw_1011 zw_1013 zs_60 zw_7 zw_1014) rfl rfl rfl kd_D_low ⟨Nat.le_of_ble_eq_true rfl, Nat.le_of_ble_eq_true rfl⟩) ⟨zw_blind zw_tt, va_recv (hK.sub (tys' := [(c 21, .long), (c 22, .int), (c 23, .int), (c 24, .int), (c 25, .int), (c 26, .int), (c 27, .int), (c 28, .int)]) [0, 1, 2, 3, 4, 5, 6, 7] rfl) (hP.sub (ws' := wD h c u_10) [0, 1, 2, 3, 4, 5, 6, 7, 8] rfl) (ci := 6) (q0 := 0) rfl rfl, zw_go (hP.sub (ws' := wD h c u_10) [0, 1, 2, 3, 4, 5, 6, 7, 8] rfl) (hD.sub (ws' := wD h c u_10) [0, 1, 2, 3, 4, 5, 6, 7, 8] (by decide) rfl) (hK.sub (tys' := [(c 21, .long), (c 22, .int), (c 23, .int), (c 24, .int), (c 25, .int), (c 26, .int), (c 27, .int), (c 28, .int)]) [0, 1, 2, 3, 4, 5, 6, 7] rfl) (fun _ _ _ => trivial)⟩ rfl rfl hl.1 rfl (lv_room (Nat.le_of_ble_eq_true rfl)) d_D_step_223 ⟨Nat.le_of_ble_eq_true rfl, Nat.le_of_ble_eq_true rfl⟩) hP hD hS hA [0, 1, 2, 3, 4, 5, 6, 7, 8] [] [0, 1, 2, 3, 4, 5, 6, 7, 8] rfl rfl (by decide) (by decide) (by decide) (fun _ => rfl) (fun u_32 H locs hw hP hD hS => ?_)
      have eu_32 := hw
      have ok_32 : okV u_32 := by rw [eu_32]; exact (ov_low ok_10)
      refine lv_goto (tgt := 268) hx hb d_D_step_226 (by decide) ?_
      refine lv_aload_n hx hb d_D_step_268 rfl (lv_at hl 1 rfl) ?_
      refine va_get (D := D) (ci := 6) (v := .int (u_32.1 21)) (C := "WindowMachineModel") (T := T_D) (N := 31) hx hb ht zi_D hown hK hP 0 rfl rfl 29 (by decide) (ht _ zw_883) (fun _ h9 => h9) rfl d_D_step_269 ?_
      refine lv_if_lt (tgt := 280) hx hb d_D_step_272 (by decide) (fun c_33 => ?_) (fun c_33 => ?_)
      · refine lv_aload_n hx hb d_D_step_280 rfl (lv_at hl 1 rfl) ?_
        refine lv_aload_n hx hb d_D_step_281 rfl (lv_at hl 1 rfl) ?_
        refine va_get (D := D) (ci := 6) (v := .int (u_32.1 5)) (C := "WindowMachineModel") (T := T_D) (N := 31) hx hb ht zi_D hown hK hP 0 rfl rfl 13 (by decide) (ht _ zw_867) (fun _ h9 => h9) rfl d_D_step_282 ?_
        refine va_put (D := D) (ci := 6) (v := .int (u_32.1 5)) (ty := .int) (C := "WindowMachineModel") (T := T_D) (N := 31) hx hb ht zi_D ty_D tyok_D nm_D hown hK hP hD hS 0 rfl rfl 12 (by decide) (ht _ zw_866) (fun _ h9 => h9) rfl (by decide +kernel) rfl rfl (Nat.le_of_ble_eq_true rfl) d_D_step_285 (fun H locs hP hD hS => ?_)
        have hP : va_P D vwCl (wD h c (upd u_32.1 4 (u_32.1 5), u_32.2.1, u_32.2.2.1, u_32.2.2.2.1, u_32.2.2.2.2.1, u_32.2.2.2.2.2)) H := hP
        have hD : va_D A (wD h c (upd u_32.1 4 (u_32.1 5), u_32.2.1, u_32.2.2.1, u_32.2.2.2.1, u_32.2.2.2.2.1, u_32.2.2.2.2.2)) := hD
        refine lv_aload_n hx hb d_D_step_288 rfl (lv_at hl 1 rfl) ?_
        refine lv_aload_n hx hb d_D_step_289 rfl (lv_at hl 1 rfl) ?_
        refine va_get (D := D) (ci := 6) (v := .int (u_32.1 22)) (C := "WindowMachineModel") (T := T_D) (N := 31) hx hb ht zi_D hown hK hP 0 rfl rfl 30 (by decide) (ht _ zw_884) (fun _ h9 => h9) rfl d_D_step_290 ?_
        refine va_put (D := D) (ci := 6) (v := .int (u_32.1 22)) (ty := .int) (C := "WindowMachineModel") (T := T_D) (N := 31) hx hb ht zi_D ty_D tyok_D nm_D hown hK hP hD hS 0 rfl rfl 13 (by decide) (ht _ zw_867) (fun _ h9 => h9) rfl (by decide +kernel) rfl rfl (Nat.le_of_ble_eq_true rfl) d_D_step_293 (fun H locs hP hD hS => ?_)
        have hP : va_P D vwCl (wD h c (upd (upd u_32.1 4 (u_32.1 5)) 5 (u_32.1 22), u_32.2.1, u_32.2.2.1, u_32.2.2.2.1, u_32.2.2.2.2.1, u_32.2.2.2.2.2)) H := hP
        have hD : va_D A (wD h c (upd (upd u_32.1 4 (u_32.1 5)) 5 (u_32.1 22), u_32.2.1, u_32.2.2.1, u_32.2.2.2.1, u_32.2.2.2.2.1, u_32.2.2.2.2.2)) := hD
        exact zl_v (u := (upd (upd u_32.1 4 (u_32.1 5)) 5 (u_32.1 22), u_32.2.1, u_32.2.2.1, u_32.2.2.2.1, u_32.2.2.2.2.1, u_32.2.2.2.2.2)) hx hb hr hlocks hS hP hD (by simp only [m_step, ← ex_2, ← eu_5, ← er_6, ← ex_7, ← eu_10, ← er_14, ← ex_15, ← ex_16, ← ex_17, ← ex_18, ← eu_32]; try simp only [if_pos c_1, if_neg c_11, if_neg c_22, if_pos c_23, if_pos c_33]) d_D_step_296
      refine lv_aload_n hx hb d_D_step_275 rfl (lv_at hl 1 rfl) ?_
      refine zc_v (w2 := fun u9 => wD h c u9) (va_runV (As := []) (rest := []) ⟨hx, hb, hml, hown, ht⟩ (mt_D_trapped l D h c H.size u_32 ok_32) (cwV 0 ht (zgV zw_1078 zw_1080 zs_73 zw_7 zw_1081) rfl rfl rfl kd_D_trapped ⟨Nat.le_of_ble_eq_true rfl, Nat.le_of_ble_eq_true rfl⟩) ⟨zw_blind zw_tt, va_recv (hK.sub (tys' := [(c 21, .long), (c 22, .int), (c 23, .int), (c 24, .int), (c 25, .int), (c 26, .int), (c 27, .int), (c 28, .int)]) [0, 1, 2, 3, 4, 5, 6, 7] rfl) (hP.sub (ws' := wD h c u_32) [0, 1, 2, 3, 4, 5, 6, 7, 8] rfl) (ci := 6) (q0 := 0) rfl rfl, zw_go (hP.sub (ws' := wD h c u_32) [0, 1, 2, 3, 4, 5, 6, 7, 8] rfl) (hD.sub (ws' := wD h c u_32) [0, 1, 2, 3, 4, 5, 6, 7, 8] (by decide) rfl) (hK.sub (tys' := [(c 21, .long), (c 22, .int), (c 23, .int), (c 24, .int), (c 25, .int), (c 26, .int), (c 27, .int), (c 28, .int)]) [0, 1, 2, 3, 4, 5, 6, 7] rfl) (fun _ _ _ => trivial)⟩ rfl rfl hl.1 rfl (lv_room (Nat.le_of_ble_eq_true rfl)) d_D_step_276 ⟨Nat.le_of_ble_eq_true rfl, Nat.le_of_ble_eq_true rfl⟩) hP hD hS hA [0, 1, 2, 3, 4, 5, 6, 7, 8] [] [0, 1, 2, 3, 4, 5, 6, 7, 8] rfl rfl (by decide) (by decide) (by decide) (fun _ => rfl) (fun u_34 H locs hw hP hD hS => ?_)
      have eu_34 := hw
      exact zl_v (u := u_34) hx hb hr hlocks hS hP hD (by simp only [m_step, ← ex_2, ← eu_5, ← er_6, ← ex_7, ← eu_10, ← er_14, ← ex_15, ← ex_16, ← ex_17, ← ex_18, ← eu_32, ← eu_34]; try simp only [if_pos c_1, if_neg c_11, if_neg c_22, if_pos c_23, if_neg c_33]) d_D_step_279
    refine lv_aload_n hx hb d_D_step_188 rfl (lv_at hl 1 rfl) ?_
    refine lv_bipush (v := (15 : Int32)) hx hb d_D_step_189 (by decide) ?_
    refine lv_aload_n hx hb d_D_step_191 rfl (lv_at hl 1 rfl) ?_
    refine va_get (D := D) (ci := 6) (v := .int (u_10.1 6)) (C := "WindowMachineModel") (T := T_D) (N := 31) hx hb ht zi_D hown hK hP 0 rfl rfl 14 (by decide) (ht _ zw_868) (fun _ h9 => h9) rfl d_D_step_192 ?_
    refine lv_aload_n hx hb d_D_step_195 rfl (lv_at hl 1 rfl) ?_
    refine va_get (D := D) (ci := 6) (v := .int (u_10.1 4)) (C := "WindowMachineModel") (T := T_D) (N := 31) hx hb ht zi_D hown hK hP 0 rfl rfl 12 (by decide) (ht _ zw_866) (fun _ h9 => h9) rfl d_D_step_196 ?_
    refine zc_v (w2 := fun u9 => wD h c u9) (va_runV (As := [.int (15 : Int32), .int (u_10.1 6), .int (u_10.1 4)]) (rest := []) ⟨hx, hb, hml, hown, ht⟩ (mt_D_gives l D h c H.size u_10 (15 : Int32) (u_10.1 6) (u_10.1 4) (by unfold vp_in; decide) (ok_10).1) (cwV 3 ht (zgV zw_990 zw_992 zs_57 zw_7 zw_993) rfl rfl rfl kd_D_gives ⟨Nat.le_of_ble_eq_true rfl, Nat.le_of_ble_eq_true rfl⟩) ⟨zw_blind zw_tt, va_recv (hK.sub (tys' := [(c 21, .long), (c 22, .int), (c 23, .int), (c 24, .int), (c 25, .int), (c 26, .int), (c 27, .int), (c 28, .int)]) [0, 1, 2, 3, 4, 5, 6, 7] rfl) (hP.sub (ws' := wD h c u_10) [0, 1, 2, 3, 4, 5, 6, 7, 8] rfl) (ci := 6) (q0 := 0) rfl rfl, zw_go (hP.sub (ws' := wD h c u_10) [0, 1, 2, 3, 4, 5, 6, 7, 8] rfl) (hD.sub (ws' := wD h c u_10) [0, 1, 2, 3, 4, 5, 6, 7, 8] (by decide) rfl) (hK.sub (tys' := [(c 21, .long), (c 22, .int), (c 23, .int), (c 24, .int), (c 25, .int), (c 26, .int), (c 27, .int), (c 28, .int)]) [0, 1, 2, 3, 4, 5, 6, 7] rfl) (fun _ _ _ => trivial)⟩ rfl rfl hl.1 rfl (lv_room (Nat.le_of_ble_eq_true rfl)) d_D_step_199 ⟨Nat.le_of_ble_eq_true rfl, Nat.le_of_ble_eq_true rfl⟩) hP hD hS hA [0, 1, 2, 3, 4, 5, 6, 7, 8] [] [0, 1, 2, 3, 4, 5, 6, 7, 8] rfl rfl (by decide) (by decide) (by decide) (fun _ => rfl) (fun u_35 H locs hw hP hD hS => ?_)
    have eu_35 := hw
    have ok_35 : okV u_35 := by rw [eu_35]; exact (ov_gives ok_10)
    refine lv_aload_n hx hb d_D_step_202 rfl (lv_at hl 1 rfl) ?_
    refine lv_aload_n hx hb d_D_step_203 rfl (lv_at hl 1 rfl) ?_
    refine va_get (D := D) (ci := 6) (v := .int (u_35.1 4)) (C := "WindowMachineModel") (T := T_D) (N := 31) hx hb ht zi_D hown hK hP 0 rfl rfl 12 (by decide) (ht _ zw_866) (fun _ h9 => h9) rfl d_D_step_204 ?_
    refine lv_iload_n hx hb d_D_step_207 rfl (lv_at hl 2 rfl) ?_
    refine lv_iconst (v := (2 : Int32)) hx hb d_D_step_208 (by decide) ?_
    refine lv_ishl hx hb d_D_step_209 ?_
    refine lv_iadd hx hb d_D_step_210 ?_
    refine va_put (D := D) (ci := 6) (v := .int ((u_35.1 4) + (r_14 <<< ((2 : Int32) &&& 31)))) (ty := .int) (C := "WindowMachineModel") (T := T_D) (N := 31) hx hb ht zi_D ty_D tyok_D nm_D hown hK hP hD hS 0 rfl rfl 30 (by decide) (ht _ zw_884) (fun _ h9 => h9) rfl (by decide +kernel) rfl rfl (Nat.le_of_ble_eq_true rfl) d_D_step_211 (fun H locs hP hD hS => ?_)
    have hP : va_P D vwCl (wD h c (upd u_35.1 22 ((u_35.1 4) + (r_14 <<< ((2 : Int32) &&& 31))), u_35.2.1, u_35.2.2.1, u_35.2.2.2.1, u_35.2.2.2.2.1, u_35.2.2.2.2.2)) H := hP
    have hD : va_D A (wD h c (upd u_35.1 22 ((u_35.1 4) + (r_14 <<< ((2 : Int32) &&& 31))), u_35.2.1, u_35.2.2.1, u_35.2.2.2.1, u_35.2.2.2.2.1, u_35.2.2.2.2.2)) := hD
    refine lv_goto (tgt := 268) hx hb d_D_step_214 (by decide) ?_
    refine lv_aload_n hx hb d_D_step_268 rfl (lv_at hl 1 rfl) ?_
    refine va_get (D := D) (ci := 6) (v := .int (u_35.1 21)) (C := "WindowMachineModel") (T := T_D) (N := 31) hx hb ht zi_D hown hK hP 0 rfl rfl 29 (by decide) (ht _ zw_883) (fun _ h9 => h9) rfl d_D_step_269 ?_
    refine lv_if_lt (tgt := 280) hx hb d_D_step_272 (by decide) (fun c_36 => ?_) (fun c_36 => ?_)
    · refine lv_aload_n hx hb d_D_step_280 rfl (lv_at hl 1 rfl) ?_
      refine lv_aload_n hx hb d_D_step_281 rfl (lv_at hl 1 rfl) ?_
      refine va_get (D := D) (ci := 6) (v := .int (u_35.1 5)) (C := "WindowMachineModel") (T := T_D) (N := 31) hx hb ht zi_D hown hK hP 0 rfl rfl 13 (by decide) (ht _ zw_867) (fun _ h9 => h9) rfl d_D_step_282 ?_
      refine va_put (D := D) (ci := 6) (v := .int (u_35.1 5)) (ty := .int) (C := "WindowMachineModel") (T := T_D) (N := 31) hx hb ht zi_D ty_D tyok_D nm_D hown hK hP hD hS 0 rfl rfl 12 (by decide) (ht _ zw_866) (fun _ h9 => h9) rfl (by decide +kernel) rfl rfl (Nat.le_of_ble_eq_true rfl) d_D_step_285 (fun H locs hP hD hS => ?_)
      have hP : va_P D vwCl (wD h c (upd (upd u_35.1 22 ((u_35.1 4) + (r_14 <<< ((2 : Int32) &&& 31)))) 4 (u_35.1 5), u_35.2.1, u_35.2.2.1, u_35.2.2.2.1, u_35.2.2.2.2.1, u_35.2.2.2.2.2)) H := hP
      have hD : va_D A (wD h c (upd (upd u_35.1 22 ((u_35.1 4) + (r_14 <<< ((2 : Int32) &&& 31)))) 4 (u_35.1 5), u_35.2.1, u_35.2.2.1, u_35.2.2.2.1, u_35.2.2.2.2.1, u_35.2.2.2.2.2)) := hD
      refine lv_aload_n hx hb d_D_step_288 rfl (lv_at hl 1 rfl) ?_
      refine lv_aload_n hx hb d_D_step_289 rfl (lv_at hl 1 rfl) ?_
      refine va_get (D := D) (ci := 6) (v := .int ((u_35.1 4) + (r_14 <<< ((2 : Int32) &&& 31)))) (C := "WindowMachineModel") (T := T_D) (N := 31) hx hb ht zi_D hown hK hP 0 rfl rfl 30 (by decide) (ht _ zw_884) (fun _ h9 => h9) rfl d_D_step_290 ?_
      refine va_put (D := D) (ci := 6) (v := .int ((u_35.1 4) + (r_14 <<< ((2 : Int32) &&& 31)))) (ty := .int) (C := "WindowMachineModel") (T := T_D) (N := 31) hx hb ht zi_D ty_D tyok_D nm_D hown hK hP hD hS 0 rfl rfl 13 (by decide) (ht _ zw_867) (fun _ h9 => h9) rfl (by decide +kernel) rfl rfl (Nat.le_of_ble_eq_true rfl) d_D_step_293 (fun H locs hP hD hS => ?_)
      have hP : va_P D vwCl (wD h c (upd (upd (upd u_35.1 22 ((u_35.1 4) + (r_14 <<< ((2 : Int32) &&& 31)))) 4 (u_35.1 5)) 5 ((u_35.1 4) + (r_14 <<< ((2 : Int32) &&& 31))), u_35.2.1, u_35.2.2.1, u_35.2.2.2.1, u_35.2.2.2.2.1, u_35.2.2.2.2.2)) H := hP
      have hD : va_D A (wD h c (upd (upd (upd u_35.1 22 ((u_35.1 4) + (r_14 <<< ((2 : Int32) &&& 31)))) 4 (u_35.1 5)) 5 ((u_35.1 4) + (r_14 <<< ((2 : Int32) &&& 31))), u_35.2.1, u_35.2.2.1, u_35.2.2.2.1, u_35.2.2.2.2.1, u_35.2.2.2.2.2)) := hD
      exact zl_v (u := (upd (upd (upd u_35.1 22 ((u_35.1 4) + (r_14 <<< ((2 : Int32) &&& 31)))) 4 (u_35.1 5)) 5 ((u_35.1 4) + (r_14 <<< ((2 : Int32) &&& 31))), u_35.2.1, u_35.2.2.1, u_35.2.2.2.1, u_35.2.2.2.2.1, u_35.2.2.2.2.2)) hx hb hr hlocks hS hP hD (by simp only [m_step, ← ex_2, ← eu_5, ← er_6, ← ex_7, ← eu_10, ← er_14, ← ex_15, ← ex_16, ← ex_17, ← ex_18, ← eu_35]; try simp only [if_pos c_1, if_neg c_11, if_pos c_22, if_pos c_36]) d_D_step_296
    refine lv_aload_n hx hb d_D_step_275 rfl (lv_at hl 1 rfl) ?_
    refine zc_v (w2 := fun u9 => wD h c u9) (va_runV (As := []) (rest := []) ⟨hx, hb, hml, hown, ht⟩ (mt_D_trapped l D h c H.size (upd u_35.1 22 ((u_35.1 4) + (r_14 <<< ((2 : Int32) &&& 31))), u_35.2.1, u_35.2.2.1, u_35.2.2.2.1, u_35.2.2.2.2.1, u_35.2.2.2.2.2) ok_35) (cwV 0 ht (zgV zw_1078 zw_1080 zs_73 zw_7 zw_1081) rfl rfl rfl kd_D_trapped ⟨Nat.le_of_ble_eq_true rfl, Nat.le_of_ble_eq_true rfl⟩) ⟨zw_blind zw_tt, va_recv (hK.sub (tys' := [(c 21, .long), (c 22, .int), (c 23, .int), (c 24, .int), (c 25, .int), (c 26, .int), (c 27, .int), (c 28, .int)]) [0, 1, 2, 3, 4, 5, 6, 7] rfl) (hP.sub (ws' := wD h c (upd u_35.1 22 ((u_35.1 4) + (r_14 <<< ((2 : Int32) &&& 31))), u_35.2.1, u_35.2.2.1, u_35.2.2.2.1, u_35.2.2.2.2.1, u_35.2.2.2.2.2)) [0, 1, 2, 3, 4, 5, 6, 7, 8] rfl) (ci := 6) (q0 := 0) rfl rfl, zw_go (hP.sub (ws' := wD h c (upd u_35.1 22 ((u_35.1 4) + (r_14 <<< ((2 : Int32) &&& 31))), u_35.2.1, u_35.2.2.1, u_35.2.2.2.1, u_35.2.2.2.2.1, u_35.2.2.2.2.2)) [0, 1, 2, 3, 4, 5, 6, 7, 8] rfl) (hD.sub (ws' := wD h c (upd u_35.1 22 ((u_35.1 4) + (r_14 <<< ((2 : Int32) &&& 31))), u_35.2.1, u_35.2.2.1, u_35.2.2.2.1, u_35.2.2.2.2.1, u_35.2.2.2.2.2)) [0, 1, 2, 3, 4, 5, 6, 7, 8] (by decide) rfl) (hK.sub (tys' := [(c 21, .long), (c 22, .int), (c 23, .int), (c 24, .int), (c 25, .int), (c 26, .int), (c 27, .int), (c 28, .int)]) [0, 1, 2, 3, 4, 5, 6, 7] rfl) (fun _ _ _ => trivial)⟩ rfl rfl hl.1 rfl (lv_room (Nat.le_of_ble_eq_true rfl)) d_D_step_276 ⟨Nat.le_of_ble_eq_true rfl, Nat.le_of_ble_eq_true rfl⟩) hP hD hS hA [0, 1, 2, 3, 4, 5, 6, 7, 8] [] [0, 1, 2, 3, 4, 5, 6, 7, 8] rfl rfl (by decide) (by decide) (by decide) (fun _ => rfl) (fun u_37 H locs hw hP hD hS => ?_)
    have eu_37 := hw
    exact zl_v (u := u_37) hx hb hr hlocks hS hP hD (by simp only [m_step, ← ex_2, ← eu_5, ← er_6, ← ex_7, ← eu_10, ← er_14, ← ex_15, ← ex_16, ← ex_17, ← ex_18, ← eu_35, ← eu_37]; try simp only [if_pos c_1, if_neg c_11, if_pos c_22, if_neg c_36]) d_D_step_279
  refine lv_aload_n hx hb d_D_step_17 rfl (lv_at hl 0 rfl) ?_
  refine lv_iconst (v := (0 : Int32)) hx hb d_D_step_18 (by decide) ?_
  refine va_put (D := D) (ci := 6) (v := .int (0 : Int32)) (ty := .boolean) (C := "WindowMachineModel") (T := T_D) (N := 31) hx hb ht zi_D ty_D tyok_D nm_D hown hK hP hD hS 0 rfl rfl 28 (by decide) (ht _ zw_882) (fun _ h9 => h9) rfl (by decide +kernel) rfl rfl (Nat.le_of_ble_eq_true rfl) d_D_step_19 (fun H locs hP hD hS => ?_)
  have hP : va_P D vwCl (wD h c (upd (upd st.1 11 ((st.1 11) + (1 : Int32))) 20 (0 : Int32), st.2.1, st.2.2.1, st.2.2.2.1, st.2.2.2.2.1, st.2.2.2.2.2)) H := hP
  have hD : va_D A (wD h c (upd (upd st.1 11 ((st.1 11) + (1 : Int32))) 20 (0 : Int32), st.2.1, st.2.2.1, st.2.2.2.1, st.2.2.2.2.1, st.2.2.2.2.2)) := hD
  refine lv_aload_n hx hb d_D_step_22 rfl (lv_at hl 0 rfl) ?_
  refine lv_aload_n hx hb d_D_step_23 rfl (lv_at hl 0 rfl) ?_
  refine va_get (D := D) (ci := 6) (v := .int (st.1 5)) (C := "WindowMachineModel") (T := T_D) (N := 31) hx hb ht zi_D hown hK hP 0 rfl rfl 13 (by decide) (ht _ zw_867) (fun _ h9 => h9) rfl d_D_step_24 ?_
  refine va_put (D := D) (ci := 6) (v := .int (st.1 5)) (ty := .int) (C := "WindowMachineModel") (T := T_D) (N := 31) hx hb ht zi_D ty_D tyok_D nm_D hown hK hP hD hS 0 rfl rfl 12 (by decide) (ht _ zw_866) (fun _ h9 => h9) rfl (by decide +kernel) rfl rfl (Nat.le_of_ble_eq_true rfl) d_D_step_27 (fun H locs hP hD hS => ?_)
  have hP : va_P D vwCl (wD h c (upd (upd (upd st.1 11 ((st.1 11) + (1 : Int32))) 20 (0 : Int32)) 4 (st.1 5), st.2.1, st.2.2.1, st.2.2.2.1, st.2.2.2.2.1, st.2.2.2.2.2)) H := hP
  have hD : va_D A (wD h c (upd (upd (upd st.1 11 ((st.1 11) + (1 : Int32))) 20 (0 : Int32)) 4 (st.1 5), st.2.1, st.2.2.1, st.2.2.2.1, st.2.2.2.2.1, st.2.2.2.2.2)) := hD
  refine lv_aload_n hx hb d_D_step_30 rfl (lv_at hl 0 rfl) ?_
  refine lv_aload_n hx hb d_D_step_31 rfl (lv_at hl 0 rfl) ?_
  refine va_get (D := D) (ci := 6) (v := .int (st.1 5)) (C := "WindowMachineModel") (T := T_D) (N := 31) hx hb ht zi_D hown hK hP 0 rfl rfl 13 (by decide) (ht _ zw_867) (fun _ h9 => h9) rfl d_D_step_32 ?_
  refine lv_iconst (v := (4 : Int32)) hx hb d_D_step_35 (by decide) ?_
  refine lv_iadd hx hb d_D_step_36 ?_
  refine va_put (D := D) (ci := 6) (v := .int ((st.1 5) + (4 : Int32))) (ty := .int) (C := "WindowMachineModel") (T := T_D) (N := 31) hx hb ht zi_D ty_D tyok_D nm_D hown hK hP hD hS 0 rfl rfl 13 (by decide) (ht _ zw_867) (fun _ h9 => h9) rfl (by decide +kernel) rfl rfl (Nat.le_of_ble_eq_true rfl) d_D_step_37 (fun H locs hP hD hS => ?_)
  have hP : va_P D vwCl (wD h c (upd (upd (upd (upd st.1 11 ((st.1 11) + (1 : Int32))) 20 (0 : Int32)) 4 (st.1 5)) 5 ((st.1 5) + (4 : Int32)), st.2.1, st.2.2.1, st.2.2.2.1, st.2.2.2.2.1, st.2.2.2.2.2)) H := hP
  have hD : va_D A (wD h c (upd (upd (upd (upd st.1 11 ((st.1 11) + (1 : Int32))) 20 (0 : Int32)) 4 (st.1 5)) 5 ((st.1 5) + (4 : Int32)), st.2.1, st.2.2.1, st.2.2.2.1, st.2.2.2.2.1, st.2.2.2.2.2)) := hD
  exact zl_v (u := (upd (upd (upd (upd st.1 11 ((st.1 11) + (1 : Int32))) 20 (0 : Int32)) 4 (st.1 5)) 5 ((st.1 5) + (4 : Int32)), st.2.1, st.2.2.1, st.2.2.2.1, st.2.2.2.2.1, st.2.2.2.2.2)) hx hb hr hlocks hS hP hD (by simp only [m_step]; try simp only [if_neg c_1]) d_D_step_40
