/-- what no trap says of a word of memory: its octets lie in the memory; a pair has an even register -/
theorem mw_all {st u1 u2 u3 : SD} {p0 p1 p2 x1 x8 x12 x21 x27 r x32 : Int32}
    (e8 : x8 = (if p1 = (3 : Int32) then (1 : Int32) else (if p1 = (7 : Int32) then (1 : Int32) else (0 : Int32))))
    (e12 : x12 = (if x8 = (0 : Int32) then (if p1 = (0 : Int32) then (4 : Int32) else (if p1 = (4 : Int32) then (4 : Int32) else (if p1 = (15 : Int32) then (4 : Int32) else (if p1 = (2 : Int32) then (2 : Int32) else (if p1 = (6 : Int32) then (2 : Int32) else (if p1 = (10 : Int32) then (2 : Int32) else (1 : Int32))))))) else (8 : Int32)))
    (e21 : x21 = (if x1 = (0 : Int32) then (1 : Int32) else (if x8 = (0 : Int32) then (0 : Int32) else (if (p0 &&& (1 : Int32)) = (1 : Int32) then (1 : Int32) else (0 : Int32)))))
    (eu1 : u1 = m_traps st x21 (2 : Int32)) (eu2 : u2 = m_traps u1 x27 (7 : Int32)) (er : r = m_in p2.toInt64 (0 : Int64) (((1024 : Int32) - x12).toInt64))
    (e32 : x32 = (if r = (0 : Int32) then (1 : Int32) else (0 : Int32))) (eu3 : u3 = m_traps u2 x32 (9 : Int32)) (c : u3.1 21 < (0 : Int32)) :
    0 ≤ p2.toInt ∧ p2.toInt + x12.toInt ≤ 1024 ∧ ((x8 = (1 : Int32) ∧ x12 = (8 : Int32) ∧ ¬ (p0 &&& (1 : Int32)) = (1 : Int32)) ∨ (x8 = (0 : Int32) ∧ (x12 = (4 : Int32) ∨ x12 = (2 : Int32) ∨ x12 = (1 : Int32)))) := by
  rw [eu3] at c
  obtain ⟨c3, n3⟩ := tr_neg (by decide) (Int32.not_le.mpr c)
  rw [eu2] at n3
  obtain ⟨-, n2⟩ := tr_neg (by decide) n3
  rw [eu1] at n2
  obtain ⟨c1, -⟩ := tr_neg (by decide) n2
  have v8 : x8 = (1 : Int32) ∨ x8 = (0 : Int32) := by
    rw [e8]
    by_cases k : p1 = (3 : Int32)
    · rw [if_pos k]; exact Or.inl rfl
    · rw [if_neg k]
      by_cases k2 : p1 = (7 : Int32)
      · rw [if_pos k2]; exact Or.inl rfl
      · rw [if_neg k2]; exact Or.inr rfl
  have v12 : (x8 = (1 : Int32) ∧ x12 = (8 : Int32) ∧ ¬ (p0 &&& (1 : Int32)) = (1 : Int32)) ∨ (x8 = (0 : Int32) ∧ (x12 = (4 : Int32) ∨ x12 = (2 : Int32) ∨ x12 = (1 : Int32))) := by
    rcases v8 with k | k
    · refine Or.inl ⟨k, by rw [e12, k, if_neg (by decide)], fun z => ?_⟩
      rw [e21, k, if_pos z] at c1
      by_cases w : x1 = (0 : Int32)
      · rw [if_pos w] at c1; exact absurd c1 (by decide)
      · rw [if_neg w, if_neg (by decide)] at c1; exact absurd c1 (by decide)
    · refine Or.inr ⟨k, ?_⟩
      rw [e12, if_pos k]
      by_cases k0 : p1 = (0 : Int32)
      · rw [if_pos k0]; exact Or.inl rfl
      rw [if_neg k0]
      by_cases k1 : p1 = (4 : Int32)
      · rw [if_pos k1]; exact Or.inl rfl
      rw [if_neg k1]
      by_cases k2 : p1 = (15 : Int32)
      · rw [if_pos k2]; exact Or.inl rfl
      rw [if_neg k2]
      by_cases k3 : p1 = (2 : Int32)
      · rw [if_pos k3]; exact Or.inr (Or.inl rfl)
      rw [if_neg k3]
      by_cases k4 : p1 = (6 : Int32)
      · rw [if_pos k4]; exact Or.inr (Or.inl rfl)
      rw [if_neg k4]
      by_cases k5 : p1 = (10 : Int32)
      · rw [if_pos k5]; exact Or.inr (Or.inl rfl)
      rw [if_neg k5]; exact Or.inr (Or.inr rfl)
  have hr : ¬ r = (0 : Int32) := fun z => by rw [e32, if_pos z] at c3; exact absurd c3 (by decide)
  rw [er] at hr
  have b := in_of hr
  rw [Int32.toInt_toInt64, Int32.toInt_toInt64] at b
  have e0 : (0 : Int64).toInt = 0 := by decide
  rw [e0] at b
  have es : ((1024 : Int32) - x12).toInt = 1024 - x12.toInt := by
    rcases v12 with ⟨-, k, -⟩ | ⟨-, k | k | k⟩ <;> rw [k] <;> decide
  rw [es] at b
  exact ⟨b.1, by omega, v12⟩
theorem mw_v {x8 x12 : Int32} {Q : Prop} (h : (x8 = (1 : Int32) ∧ x12 = (8 : Int32) ∧ Q) ∨ (x8 = (0 : Int32) ∧ (x12 = (4 : Int32) ∨ x12 = (2 : Int32) ∨ x12 = (1 : Int32)))) : 1 ≤ x12.toInt ∧ x12.toInt ≤ 8 := by
  rcases h with ⟨-, k, -⟩ | ⟨-, k | k | k⟩ <;> rw [k] <;> decide
theorem qt4 : (4 : Int32).toInt = 4 := by decide
theorem qt1 : (1 : Int32).toInt = 1 := by decide
theorem mw_tk {p0 p2 x8 x12 x : Int32} (h : 0 ≤ p2.toInt ∧ p2.toInt + x12.toInt ≤ 1024 ∧ ((x8 = (1 : Int32) ∧ x12 = (8 : Int32) ∧ ¬ (p0 &&& (1 : Int32)) = (1 : Int32)) ∨ (x8 = (0 : Int32) ∧ (x12 = (4 : Int32) ∨ x12 = (2 : Int32) ∨ x12 = (1 : Int32))))) (e : x = (if x8 = (0 : Int32) then x12 else (4 : Int32))) : 0 ≤ p2.toInt ∧ 0 ≤ x.toInt ∧ x.toInt ≤ 8 ∧ p2.toInt + x.toInt ≤ 1024 := by
  have v := mw_v h.2.2
  by_cases k : x8 = (0 : Int32)
  · rw [e, if_pos k]; omega
  · rw [e, if_neg k, qt4]
    rcases h.2.2 with ⟨-, q, -⟩ | ⟨q, -⟩
    · have : x12.toInt = 8 := by rw [q]; decide
      omega
    · exact absurd q k
theorem mw_sz {p0 p2 x8 x12 : Int32} (h : 0 ≤ p2.toInt ∧ p2.toInt + x12.toInt ≤ 1024 ∧ ((x8 = (1 : Int32) ∧ x12 = (8 : Int32) ∧ ¬ (p0 &&& (1 : Int32)) = (1 : Int32)) ∨ (x8 = (0 : Int32) ∧ (x12 = (4 : Int32) ∨ x12 = (2 : Int32) ∨ x12 = (1 : Int32))))) : 0 ≤ p2.toInt ∧ 0 ≤ x12.toInt ∧ x12.toInt ≤ 8 ∧ p2.toInt + x12.toInt ≤ 1024 := by
  have v := mw_v h.2.2
  omega
theorem mw_1 {p0 p2 x8 x12 : Int32} (h : 0 ≤ p2.toInt ∧ p2.toInt + x12.toInt ≤ 1024 ∧ ((x8 = (1 : Int32) ∧ x12 = (8 : Int32) ∧ ¬ (p0 &&& (1 : Int32)) = (1 : Int32)) ∨ (x8 = (0 : Int32) ∧ (x12 = (4 : Int32) ∨ x12 = (2 : Int32) ∨ x12 = (1 : Int32))))) : 0 ≤ p2.toInt ∧ 0 ≤ (1 : Int32).toInt ∧ (1 : Int32).toInt ≤ 8 ∧ p2.toInt + (1 : Int32).toInt ≤ 1024 := by
  have v := mw_v h.2.2
  rw [qt1]
  omega
theorem mw_8 {p0 p1 p2 x8 x12 : Int32} (h : 0 ≤ p2.toInt ∧ p2.toInt + x12.toInt ≤ 1024 ∧ ((x8 = (1 : Int32) ∧ x12 = (8 : Int32) ∧ ¬ (p0 &&& (1 : Int32)) = (1 : Int32)) ∨ (x8 = (0 : Int32) ∧ (x12 = (4 : Int32) ∨ x12 = (2 : Int32) ∨ x12 = (1 : Int32)))))
    (e8 : x8 = (if p1 = (3 : Int32) then (1 : Int32) else (if p1 = (7 : Int32) then (1 : Int32) else (0 : Int32)))) (k : p1 = (3 : Int32) ∨ p1 = (7 : Int32)) : 0 ≤ p2.toInt ∧ p2.toInt + 8 ≤ 1024 ∧ ¬ (p0 &&& (1 : Int32)) = (1 : Int32) := by
  have q : x8 = (1 : Int32) := by
    rw [e8]
    by_cases z : p1 = (3 : Int32)
    · rw [if_pos z]
    · rw [if_neg z, if_pos (k.resolve_left z)]
  rcases h.2.2 with ⟨-, w, n⟩ | ⟨w, -⟩
  · have : x12.toInt = 8 := by rw [w]; decide
    exact ⟨h.1, by omega, n⟩
  · rw [q] at w
    exact absurd w (by decide)
theorem mw_p4 {p2 : Int32} {Q : Prop} (h : 0 ≤ p2.toInt ∧ p2.toInt + 8 ≤ 1024 ∧ Q) : 0 ≤ p2.toInt ∧ 0 ≤ (4 : Int32).toInt ∧ (4 : Int32).toInt ≤ 8 ∧ p2.toInt + (4 : Int32).toInt ≤ 1024 := by
  rw [qt4]
  omega
theorem mw_p44 {p2 : Int32} {Q : Prop} (h : 0 ≤ p2.toInt ∧ p2.toInt + 8 ≤ 1024 ∧ Q) : 0 ≤ (p2 + (4 : Int32)).toInt ∧ 0 ≤ (4 : Int32).toInt ∧ (4 : Int32).toInt ≤ 8 ∧ (p2 + (4 : Int32)).toInt + (4 : Int32).toInt ≤ 1024 := by
  have e : (p2 + (4 : Int32)).toInt = p2.toInt + 4 := by
    rw [Int32.toInt_add, qt4]
    apply Int.bmod_eq_of_le <;> omega
  rw [e, qt4]
  omega
theorem mw_15 {p0 p1 p2 x8 x12 : Int32} (h : 0 ≤ p2.toInt ∧ p2.toInt + x12.toInt ≤ 1024 ∧ ((x8 = (1 : Int32) ∧ x12 = (8 : Int32) ∧ ¬ (p0 &&& (1 : Int32)) = (1 : Int32)) ∨ (x8 = (0 : Int32) ∧ (x12 = (4 : Int32) ∨ x12 = (2 : Int32) ∨ x12 = (1 : Int32)))))
    (e12 : x12 = (if x8 = (0 : Int32) then (if p1 = (0 : Int32) then (4 : Int32) else (if p1 = (4 : Int32) then (4 : Int32) else (if p1 = (15 : Int32) then (4 : Int32) else (if p1 = (2 : Int32) then (2 : Int32) else (if p1 = (6 : Int32) then (2 : Int32) else (if p1 = (10 : Int32) then (2 : Int32) else (1 : Int32))))))) else (8 : Int32))) (k : p1 = (15 : Int32)) : 0 ≤ p2.toInt ∧ 0 ≤ (4 : Int32).toInt ∧ (4 : Int32).toInt ≤ 8 ∧ p2.toInt + (4 : Int32).toInt ≤ 1024 := by
  have q : 4 ≤ x12.toInt := by
    rw [e12, k]
    by_cases z : x8 = (0 : Int32)
    · rw [if_pos z]; decide
    · rw [if_neg z]; decide
  rw [qt4]
  omega
theorem rd_1 {n : Int32} (hn : vp_in n 32) (c : ¬ (n &&& (1 : Int32)) = (1 : Int32)) : vp_in (n + (1 : Int32)) 32 := by
  obtain ⟨j, hj, rfl⟩ := vp_in_of hn (by omega)
  have f : ∀ j, j < 32 → ¬ (nI j &&& (1 : Int32)) = (1 : Int32) → j + 1 < 32 := by decide +kernel
  have := f j hj c
  rw [show nI j + (1 : Int32) = nI (j + 1) from (nI_succ j).symm]
  exact vp_in_nI this (by omega)
theorem d_D_memoryWord_0 : decode c_D_memoryWord 0 = .ok (.iload_n 2, 1) := by decide +kernel
theorem d_D_memoryWord_1 : decode c_D_memoryWord 1 = .ok (.bipush 8, 2) := by decide +kernel
theorem d_D_memoryWord_3 : decode c_D_memoryWord 3 = .ok (.if_icmp .lt 27, 3) := by decide +kernel
theorem d_D_memoryWord_6 : decode c_D_memoryWord 6 = .ok (.iload_n 2, 1) := by decide +kernel
theorem d_D_memoryWord_7 : decode c_D_memoryWord 7 = .ok (.bipush 9, 2) := by decide +kernel
theorem d_D_memoryWord_9 : decode c_D_memoryWord 9 = .ok (.if_icmp .eq 21, 3) := by decide +kernel
theorem d_D_memoryWord_12 : decode c_D_memoryWord 12 = .ok (.iload_n 2, 1) := by decide +kernel
theorem d_D_memoryWord_13 : decode c_D_memoryWord 13 = .ok (.bipush 10, 2) := by decide +kernel
theorem d_D_memoryWord_15 : decode c_D_memoryWord 15 = .ok (.if_icmp .eq 15, 3) := by decide +kernel
theorem d_D_memoryWord_18 : decode c_D_memoryWord 18 = .ok (.iload_n 2, 1) := by decide +kernel
theorem d_D_memoryWord_19 : decode c_D_memoryWord 19 = .ok (.bipush 13, 2) := by decide +kernel
theorem d_D_memoryWord_21 : decode c_D_memoryWord 21 = .ok (.if_icmp .eq 9, 3) := by decide +kernel
theorem d_D_memoryWord_24 : decode c_D_memoryWord 24 = .ok (.iload_n 2, 1) := by decide +kernel
theorem d_D_memoryWord_25 : decode c_D_memoryWord 25 = .ok (.bipush 15, 2) := by decide +kernel
theorem d_D_memoryWord_27 : decode c_D_memoryWord 27 = .ok (.if_icmp .ne 7, 3) := by decide +kernel
theorem d_D_memoryWord_30 : decode c_D_memoryWord 30 = .ok (.iconst 1, 1) := by decide +kernel
theorem d_D_memoryWord_31 : decode c_D_memoryWord 31 = .ok (.goto 4, 3) := by decide +kernel
theorem d_D_memoryWord_34 : decode c_D_memoryWord 34 = .ok (.iconst 0, 1) := by decide +kernel
theorem d_D_memoryWord_35 : decode c_D_memoryWord 35 = .ok (.istore 4, 2) := by decide +kernel
theorem d_D_memoryWord_37 : decode c_D_memoryWord 37 = .ok (.iload_n 2, 1) := by decide +kernel
theorem d_D_memoryWord_38 : decode c_D_memoryWord 38 = .ok (.iconst 3, 1) := by decide +kernel
theorem d_D_memoryWord_39 : decode c_D_memoryWord 39 = .ok (.if_icmp .eq 9, 3) := by decide +kernel
theorem d_D_memoryWord_42 : decode c_D_memoryWord 42 = .ok (.iload_n 2, 1) := by decide +kernel
theorem d_D_memoryWord_43 : decode c_D_memoryWord 43 = .ok (.bipush 7, 2) := by decide +kernel
theorem d_D_memoryWord_45 : decode c_D_memoryWord 45 = .ok (.if_icmp .ne 7, 3) := by decide +kernel
theorem d_D_memoryWord_48 : decode c_D_memoryWord 48 = .ok (.iconst 1, 1) := by decide +kernel
theorem d_D_memoryWord_49 : decode c_D_memoryWord 49 = .ok (.goto 4, 3) := by decide +kernel
theorem d_D_memoryWord_52 : decode c_D_memoryWord 52 = .ok (.iconst 0, 1) := by decide +kernel
theorem d_D_memoryWord_53 : decode c_D_memoryWord 53 = .ok (.istore 5, 2) := by decide +kernel
theorem d_D_memoryWord_55 : decode c_D_memoryWord 55 = .ok (.iload 5, 2) := by decide +kernel
theorem d_D_memoryWord_57 : decode c_D_memoryWord 57 = .ok (.ifCond .eq 8, 3) := by decide +kernel
theorem d_D_memoryWord_60 : decode c_D_memoryWord 60 = .ok (.bipush 8, 2) := by decide +kernel
theorem d_D_memoryWord_62 : decode c_D_memoryWord 62 = .ok (.goto 44, 3) := by decide +kernel
theorem d_D_memoryWord_65 : decode c_D_memoryWord 65 = .ok (.iload_n 2, 1) := by decide +kernel
theorem d_D_memoryWord_66 : decode c_D_memoryWord 66 = .ok (.ifCond .eq 14, 3) := by decide +kernel
theorem d_D_memoryWord_69 : decode c_D_memoryWord 69 = .ok (.iload_n 2, 1) := by decide +kernel
theorem d_D_memoryWord_70 : decode c_D_memoryWord 70 = .ok (.iconst 4, 1) := by decide +kernel
theorem d_D_memoryWord_71 : decode c_D_memoryWord 71 = .ok (.if_icmp .eq 9, 3) := by decide +kernel
theorem d_D_memoryWord_74 : decode c_D_memoryWord 74 = .ok (.iload_n 2, 1) := by decide +kernel
theorem d_D_memoryWord_75 : decode c_D_memoryWord 75 = .ok (.bipush 15, 2) := by decide +kernel
theorem d_D_memoryWord_77 : decode c_D_memoryWord 77 = .ok (.if_icmp .ne 7, 3) := by decide +kernel
theorem d_D_memoryWord_80 : decode c_D_memoryWord 80 = .ok (.iconst 4, 1) := by decide +kernel
theorem d_D_memoryWord_81 : decode c_D_memoryWord 81 = .ok (.goto 25, 3) := by decide +kernel
theorem d_D_memoryWord_84 : decode c_D_memoryWord 84 = .ok (.iload_n 2, 1) := by decide +kernel
theorem d_D_memoryWord_85 : decode c_D_memoryWord 85 = .ok (.iconst 2, 1) := by decide +kernel
theorem d_D_memoryWord_86 : decode c_D_memoryWord 86 = .ok (.if_icmp .eq 15, 3) := by decide +kernel
theorem d_D_memoryWord_89 : decode c_D_memoryWord 89 = .ok (.iload_n 2, 1) := by decide +kernel
theorem d_D_memoryWord_90 : decode c_D_memoryWord 90 = .ok (.bipush 6, 2) := by decide +kernel
theorem d_D_memoryWord_92 : decode c_D_memoryWord 92 = .ok (.if_icmp .eq 9, 3) := by decide +kernel
theorem d_D_memoryWord_95 : decode c_D_memoryWord 95 = .ok (.iload_n 2, 1) := by decide +kernel
theorem d_D_memoryWord_96 : decode c_D_memoryWord 96 = .ok (.bipush 10, 2) := by decide +kernel
theorem d_D_memoryWord_98 : decode c_D_memoryWord 98 = .ok (.if_icmp .ne 7, 3) := by decide +kernel
theorem d_D_memoryWord_101 : decode c_D_memoryWord 101 = .ok (.iconst 2, 1) := by decide +kernel
theorem d_D_memoryWord_102 : decode c_D_memoryWord 102 = .ok (.goto 4, 3) := by decide +kernel
theorem d_D_memoryWord_105 : decode c_D_memoryWord 105 = .ok (.iconst 1, 1) := by decide +kernel
theorem d_D_memoryWord_106 : decode c_D_memoryWord 106 = .ok (.istore 6, 2) := by decide +kernel
theorem d_D_memoryWord_108 : decode c_D_memoryWord 108 = .ok (.aload_n 0, 1) := by decide +kernel
theorem d_D_memoryWord_109 : decode c_D_memoryWord 109 = .ok (.iload 4, 2) := by decide +kernel
theorem d_D_memoryWord_111 : decode c_D_memoryWord 111 = .ok (.ifCond .eq 15, 3) := by decide +kernel
theorem d_D_memoryWord_114 : decode c_D_memoryWord 114 = .ok (.iload 5, 2) := by decide +kernel
theorem d_D_memoryWord_116 : decode c_D_memoryWord 116 = .ok (.ifCond .eq 14, 3) := by decide +kernel
theorem d_D_memoryWord_119 : decode c_D_memoryWord 119 = .ok (.iload_n 1, 1) := by decide +kernel
theorem d_D_memoryWord_120 : decode c_D_memoryWord 120 = .ok (.iconst 1, 1) := by decide +kernel
theorem d_D_memoryWord_121 : decode c_D_memoryWord 121 = .ok (.iand, 1) := by decide +kernel
theorem d_D_memoryWord_122 : decode c_D_memoryWord 122 = .ok (.iconst 1, 1) := by decide +kernel
theorem d_D_memoryWord_123 : decode c_D_memoryWord 123 = .ok (.if_icmp .ne 7, 3) := by decide +kernel
theorem d_D_memoryWord_126 : decode c_D_memoryWord 126 = .ok (.iconst 1, 1) := by decide +kernel
theorem d_D_memoryWord_127 : decode c_D_memoryWord 127 = .ok (.goto 4, 3) := by decide +kernel
theorem d_D_memoryWord_130 : decode c_D_memoryWord 130 = .ok (.iconst 0, 1) := by decide +kernel
theorem d_D_memoryWord_131 : decode c_D_memoryWord 131 = .ok (.iconst 2, 1) := by decide +kernel
theorem d_D_memoryWord_132 : decode c_D_memoryWord 132 = .ok (.invokevirtual 334, 3) := by decide +kernel
theorem d_D_memoryWord_135 : decode c_D_memoryWord 135 = .ok (.aload_n 0, 1) := by decide +kernel
theorem d_D_memoryWord_136 : decode c_D_memoryWord 136 = .ok (.iload_n 3, 1) := by decide +kernel
theorem d_D_memoryWord_137 : decode c_D_memoryWord 137 = .ok (.iload 6, 2) := by decide +kernel
theorem d_D_memoryWord_139 : decode c_D_memoryWord 139 = .ok (.iconst 1, 1) := by decide +kernel
theorem d_D_memoryWord_140 : decode c_D_memoryWord 140 = .ok (.isub, 1) := by decide +kernel
theorem d_D_memoryWord_141 : decode c_D_memoryWord 141 = .ok (.iand, 1) := by decide +kernel
theorem d_D_memoryWord_142 : decode c_D_memoryWord 142 = .ok (.ifCond .eq 7, 3) := by decide +kernel
theorem d_D_memoryWord_145 : decode c_D_memoryWord 145 = .ok (.iconst 1, 1) := by decide +kernel
theorem d_D_memoryWord_146 : decode c_D_memoryWord 146 = .ok (.goto 4, 3) := by decide +kernel
theorem d_D_memoryWord_149 : decode c_D_memoryWord 149 = .ok (.iconst 0, 1) := by decide +kernel
theorem d_D_memoryWord_150 : decode c_D_memoryWord 150 = .ok (.bipush 7, 2) := by decide +kernel
theorem d_D_memoryWord_152 : decode c_D_memoryWord 152 = .ok (.invokevirtual 334, 3) := by decide +kernel
theorem d_D_memoryWord_155 : decode c_D_memoryWord 155 = .ok (.aload_n 0, 1) := by decide +kernel
theorem d_D_memoryWord_156 : decode c_D_memoryWord 156 = .ok (.iload_n 3, 1) := by decide +kernel
theorem d_D_memoryWord_157 : decode c_D_memoryWord 157 = .ok (.i2l, 1) := by decide +kernel
theorem d_D_memoryWord_158 : decode c_D_memoryWord 158 = .ok (.lconst 0, 1) := by decide +kernel
theorem d_D_memoryWord_159 : decode c_D_memoryWord 159 = .ok (.sipush 1024, 3) := by decide +kernel
theorem d_D_memoryWord_162 : decode c_D_memoryWord 162 = .ok (.iload 6, 2) := by decide +kernel
theorem d_D_memoryWord_164 : decode c_D_memoryWord 164 = .ok (.isub, 1) := by decide +kernel
theorem d_D_memoryWord_165 : decode c_D_memoryWord 165 = .ok (.i2l, 1) := by decide +kernel
theorem d_D_memoryWord_166 : decode c_D_memoryWord 166 = .ok (.invokestatic 282, 3) := by decide +kernel
theorem d_D_memoryWord_169 : decode c_D_memoryWord 169 = .ok (.ifCond .ne 7, 3) := by decide +kernel
theorem d_D_memoryWord_172 : decode c_D_memoryWord 172 = .ok (.iconst 1, 1) := by decide +kernel
theorem d_D_memoryWord_173 : decode c_D_memoryWord 173 = .ok (.goto 4, 3) := by decide +kernel
theorem d_D_memoryWord_176 : decode c_D_memoryWord 176 = .ok (.iconst 0, 1) := by decide +kernel
theorem d_D_memoryWord_177 : decode c_D_memoryWord 177 = .ok (.bipush 9, 2) := by decide +kernel
theorem d_D_memoryWord_179 : decode c_D_memoryWord 179 = .ok (.invokevirtual 334, 3) := by decide +kernel
theorem d_D_memoryWord_182 : decode c_D_memoryWord 182 = .ok (.aload_n 0, 1) := by decide +kernel
theorem d_D_memoryWord_183 : decode c_D_memoryWord 183 = .ok (.getfield 312, 3) := by decide +kernel
theorem d_D_memoryWord_186 : decode c_D_memoryWord 186 = .ok (.ifCond .lt 4, 3) := by decide +kernel
theorem d_D_memoryWord_189 : decode c_D_memoryWord 189 = .ok (.return_, 1) := by decide +kernel
theorem d_D_memoryWord_190 : decode c_D_memoryWord 190 = .ok (.aload_n 0, 1) := by decide +kernel
theorem d_D_memoryWord_191 : decode c_D_memoryWord 191 = .ok (.iload_n 3, 1) := by decide +kernel
theorem d_D_memoryWord_192 : decode c_D_memoryWord 192 = .ok (.iload 5, 2) := by decide +kernel
theorem d_D_memoryWord_194 : decode c_D_memoryWord 194 = .ok (.ifCond .eq 7, 3) := by decide +kernel
theorem d_D_memoryWord_197 : decode c_D_memoryWord 197 = .ok (.iconst 4, 1) := by decide +kernel
theorem d_D_memoryWord_198 : decode c_D_memoryWord 198 = .ok (.goto 5, 3) := by decide +kernel
theorem d_D_memoryWord_201 : decode c_D_memoryWord 201 = .ok (.iload 6, 2) := by decide +kernel
theorem d_D_memoryWord_203 : decode c_D_memoryWord 203 = .ok (.invokevirtual 294, 3) := by decide +kernel
theorem d_D_memoryWord_206 : decode c_D_memoryWord 206 = .ok (.istore 7, 2) := by decide +kernel
theorem d_D_memoryWord_208 : decode c_D_memoryWord 208 = .ok (.aload_n 0, 1) := by decide +kernel
theorem d_D_memoryWord_209 : decode c_D_memoryWord 209 = .ok (.iload_n 1, 1) := by decide +kernel
theorem d_D_memoryWord_210 : decode c_D_memoryWord 210 = .ok (.aload_n 0, 1) := by decide +kernel
theorem d_D_memoryWord_211 : decode c_D_memoryWord 211 = .ok (.getfield 237, 3) := by decide +kernel
theorem d_D_memoryWord_214 : decode c_D_memoryWord 214 = .ok (.invokevirtual 306, 3) := by decide +kernel
theorem d_D_memoryWord_217 : decode c_D_memoryWord 217 = .ok (.istore 8, 2) := by decide +kernel
theorem d_D_memoryWord_219 : decode c_D_memoryWord 219 = .ok (.iload_n 2, 1) := by decide +kernel
theorem d_D_memoryWord_220 : decode c_D_memoryWord 220 = .ok (.tableswitch 222 3 15 #[68, 105, 105, 105, 117, 222, 147, 162, 222, 222, 177, 222, 200], 68) := by decide +kernel
theorem d_D_memoryWord_288 : decode c_D_memoryWord 288 = .ok (.aload_n 0, 1) := by decide +kernel
theorem d_D_memoryWord_289 : decode c_D_memoryWord 289 = .ok (.iload_n 3, 1) := by decide +kernel
theorem d_D_memoryWord_290 : decode c_D_memoryWord 290 = .ok (.iconst 4, 1) := by decide +kernel
theorem d_D_memoryWord_291 : decode c_D_memoryWord 291 = .ok (.iadd, 1) := by decide +kernel
theorem d_D_memoryWord_292 : decode c_D_memoryWord 292 = .ok (.iconst 4, 1) := by decide +kernel
theorem d_D_memoryWord_293 : decode c_D_memoryWord 293 = .ok (.invokevirtual 294, 3) := by decide +kernel
theorem d_D_memoryWord_296 : decode c_D_memoryWord 296 = .ok (.istore 9, 2) := by decide +kernel
theorem d_D_memoryWord_298 : decode c_D_memoryWord 298 = .ok (.aload_n 0, 1) := by decide +kernel
theorem d_D_memoryWord_299 : decode c_D_memoryWord 299 = .ok (.iload_n 1, 1) := by decide +kernel
theorem d_D_memoryWord_300 : decode c_D_memoryWord 300 = .ok (.aload_n 0, 1) := by decide +kernel
theorem d_D_memoryWord_301 : decode c_D_memoryWord 301 = .ok (.getfield 237, 3) := by decide +kernel
theorem d_D_memoryWord_304 : decode c_D_memoryWord 304 = .ok (.iload 7, 2) := by decide +kernel
theorem d_D_memoryWord_306 : decode c_D_memoryWord 306 = .ok (.invokevirtual 309, 3) := by decide +kernel
theorem d_D_memoryWord_309 : decode c_D_memoryWord 309 = .ok (.aload_n 0, 1) := by decide +kernel
theorem d_D_memoryWord_310 : decode c_D_memoryWord 310 = .ok (.iload_n 1, 1) := by decide +kernel
theorem d_D_memoryWord_311 : decode c_D_memoryWord 311 = .ok (.iconst 1, 1) := by decide +kernel
theorem d_D_memoryWord_312 : decode c_D_memoryWord 312 = .ok (.iadd, 1) := by decide +kernel
theorem d_D_memoryWord_313 : decode c_D_memoryWord 313 = .ok (.aload_n 0, 1) := by decide +kernel
theorem d_D_memoryWord_314 : decode c_D_memoryWord 314 = .ok (.getfield 237, 3) := by decide +kernel
theorem d_D_memoryWord_317 : decode c_D_memoryWord 317 = .ok (.iload 9, 2) := by decide +kernel
theorem d_D_memoryWord_319 : decode c_D_memoryWord 319 = .ok (.invokevirtual 309, 3) := by decide +kernel
theorem d_D_memoryWord_322 : decode c_D_memoryWord 322 = .ok (.goto 131, 3) := by decide +kernel
theorem d_D_memoryWord_325 : decode c_D_memoryWord 325 = .ok (.aload_n 0, 1) := by decide +kernel
theorem d_D_memoryWord_326 : decode c_D_memoryWord 326 = .ok (.iload_n 3, 1) := by decide +kernel
theorem d_D_memoryWord_327 : decode c_D_memoryWord 327 = .ok (.iload 6, 2) := by decide +kernel
theorem d_D_memoryWord_329 : decode c_D_memoryWord 329 = .ok (.iload 8, 2) := by decide +kernel
theorem d_D_memoryWord_331 : decode c_D_memoryWord 331 = .ok (.invokevirtual 298, 3) := by decide +kernel
theorem d_D_memoryWord_334 : decode c_D_memoryWord 334 = .ok (.goto 119, 3) := by decide +kernel
theorem d_D_memoryWord_337 : decode c_D_memoryWord 337 = .ok (.aload_n 0, 1) := by decide +kernel
theorem d_D_memoryWord_338 : decode c_D_memoryWord 338 = .ok (.iload_n 3, 1) := by decide +kernel
theorem d_D_memoryWord_339 : decode c_D_memoryWord 339 = .ok (.iconst 4, 1) := by decide +kernel
theorem d_D_memoryWord_340 : decode c_D_memoryWord 340 = .ok (.iload 8, 2) := by decide +kernel
theorem d_D_memoryWord_342 : decode c_D_memoryWord 342 = .ok (.invokevirtual 298, 3) := by decide +kernel
theorem d_D_memoryWord_345 : decode c_D_memoryWord 345 = .ok (.aload_n 0, 1) := by decide +kernel
theorem d_D_memoryWord_346 : decode c_D_memoryWord 346 = .ok (.iload_n 3, 1) := by decide +kernel
theorem d_D_memoryWord_347 : decode c_D_memoryWord 347 = .ok (.iconst 4, 1) := by decide +kernel
theorem d_D_memoryWord_348 : decode c_D_memoryWord 348 = .ok (.iadd, 1) := by decide +kernel
theorem d_D_memoryWord_349 : decode c_D_memoryWord 349 = .ok (.iconst 4, 1) := by decide +kernel
theorem d_D_memoryWord_350 : decode c_D_memoryWord 350 = .ok (.aload_n 0, 1) := by decide +kernel
theorem d_D_memoryWord_351 : decode c_D_memoryWord 351 = .ok (.iload_n 1, 1) := by decide +kernel
theorem d_D_memoryWord_352 : decode c_D_memoryWord 352 = .ok (.iconst 1, 1) := by decide +kernel
theorem d_D_memoryWord_353 : decode c_D_memoryWord 353 = .ok (.iadd, 1) := by decide +kernel
theorem d_D_memoryWord_354 : decode c_D_memoryWord 354 = .ok (.aload_n 0, 1) := by decide +kernel
theorem d_D_memoryWord_355 : decode c_D_memoryWord 355 = .ok (.getfield 237, 3) := by decide +kernel
theorem d_D_memoryWord_358 : decode c_D_memoryWord 358 = .ok (.invokevirtual 306, 3) := by decide +kernel
theorem d_D_memoryWord_361 : decode c_D_memoryWord 361 = .ok (.invokevirtual 298, 3) := by decide +kernel
theorem d_D_memoryWord_364 : decode c_D_memoryWord 364 = .ok (.goto 89, 3) := by decide +kernel
theorem d_D_memoryWord_367 : decode c_D_memoryWord 367 = .ok (.aload_n 0, 1) := by decide +kernel
theorem d_D_memoryWord_368 : decode c_D_memoryWord 368 = .ok (.iload_n 1, 1) := by decide +kernel
theorem d_D_memoryWord_369 : decode c_D_memoryWord 369 = .ok (.aload_n 0, 1) := by decide +kernel
theorem d_D_memoryWord_370 : decode c_D_memoryWord 370 = .ok (.getfield 237, 3) := by decide +kernel
theorem d_D_memoryWord_373 : decode c_D_memoryWord 373 = .ok (.iload 7, 2) := by decide +kernel
theorem d_D_memoryWord_375 : decode c_D_memoryWord 375 = .ok (.i2b, 1) := by decide +kernel
theorem d_D_memoryWord_376 : decode c_D_memoryWord 376 = .ok (.invokevirtual 309, 3) := by decide +kernel
theorem d_D_memoryWord_379 : decode c_D_memoryWord 379 = .ok (.goto 74, 3) := by decide +kernel
theorem d_D_memoryWord_382 : decode c_D_memoryWord 382 = .ok (.aload_n 0, 1) := by decide +kernel
theorem d_D_memoryWord_383 : decode c_D_memoryWord 383 = .ok (.iload_n 1, 1) := by decide +kernel
theorem d_D_memoryWord_384 : decode c_D_memoryWord 384 = .ok (.aload_n 0, 1) := by decide +kernel
theorem d_D_memoryWord_385 : decode c_D_memoryWord 385 = .ok (.getfield 237, 3) := by decide +kernel
theorem d_D_memoryWord_388 : decode c_D_memoryWord 388 = .ok (.iload 7, 2) := by decide +kernel
theorem d_D_memoryWord_390 : decode c_D_memoryWord 390 = .ok (.i2s, 1) := by decide +kernel
theorem d_D_memoryWord_391 : decode c_D_memoryWord 391 = .ok (.invokevirtual 309, 3) := by decide +kernel
theorem d_D_memoryWord_394 : decode c_D_memoryWord 394 = .ok (.goto 59, 3) := by decide +kernel
theorem d_D_memoryWord_397 : decode c_D_memoryWord 397 = .ok (.aload_n 0, 1) := by decide +kernel
theorem d_D_memoryWord_398 : decode c_D_memoryWord 398 = .ok (.iload_n 3, 1) := by decide +kernel
theorem d_D_memoryWord_399 : decode c_D_memoryWord 399 = .ok (.iconst 1, 1) := by decide +kernel
theorem d_D_memoryWord_400 : decode c_D_memoryWord 400 = .ok (.sipush 255, 3) := by decide +kernel
theorem d_D_memoryWord_403 : decode c_D_memoryWord 403 = .ok (.invokevirtual 298, 3) := by decide +kernel
theorem d_D_memoryWord_406 : decode c_D_memoryWord 406 = .ok (.aload_n 0, 1) := by decide +kernel
theorem d_D_memoryWord_407 : decode c_D_memoryWord 407 = .ok (.iload_n 1, 1) := by decide +kernel
theorem d_D_memoryWord_408 : decode c_D_memoryWord 408 = .ok (.aload_n 0, 1) := by decide +kernel
theorem d_D_memoryWord_409 : decode c_D_memoryWord 409 = .ok (.getfield 237, 3) := by decide +kernel
theorem d_D_memoryWord_412 : decode c_D_memoryWord 412 = .ok (.iload 7, 2) := by decide +kernel
theorem d_D_memoryWord_414 : decode c_D_memoryWord 414 = .ok (.invokevirtual 309, 3) := by decide +kernel
theorem d_D_memoryWord_417 : decode c_D_memoryWord 417 = .ok (.goto 36, 3) := by decide +kernel
theorem d_D_memoryWord_420 : decode c_D_memoryWord 420 = .ok (.aload_n 0, 1) := by decide +kernel
theorem d_D_memoryWord_421 : decode c_D_memoryWord 421 = .ok (.iload_n 3, 1) := by decide +kernel
theorem d_D_memoryWord_422 : decode c_D_memoryWord 422 = .ok (.iconst 4, 1) := by decide +kernel
theorem d_D_memoryWord_423 : decode c_D_memoryWord 423 = .ok (.iload 8, 2) := by decide +kernel
theorem d_D_memoryWord_425 : decode c_D_memoryWord 425 = .ok (.invokevirtual 298, 3) := by decide +kernel
theorem d_D_memoryWord_428 : decode c_D_memoryWord 428 = .ok (.aload_n 0, 1) := by decide +kernel
theorem d_D_memoryWord_429 : decode c_D_memoryWord 429 = .ok (.iload_n 1, 1) := by decide +kernel
theorem d_D_memoryWord_430 : decode c_D_memoryWord 430 = .ok (.aload_n 0, 1) := by decide +kernel
theorem d_D_memoryWord_431 : decode c_D_memoryWord 431 = .ok (.getfield 237, 3) := by decide +kernel
theorem d_D_memoryWord_434 : decode c_D_memoryWord 434 = .ok (.iload 7, 2) := by decide +kernel
theorem d_D_memoryWord_436 : decode c_D_memoryWord 436 = .ok (.invokevirtual 309, 3) := by decide +kernel
theorem d_D_memoryWord_439 : decode c_D_memoryWord 439 = .ok (.goto 14, 3) := by decide +kernel
theorem d_D_memoryWord_442 : decode c_D_memoryWord 442 = .ok (.aload_n 0, 1) := by decide +kernel
theorem d_D_memoryWord_443 : decode c_D_memoryWord 443 = .ok (.iload_n 1, 1) := by decide +kernel
theorem d_D_memoryWord_444 : decode c_D_memoryWord 444 = .ok (.aload_n 0, 1) := by decide +kernel
theorem d_D_memoryWord_445 : decode c_D_memoryWord 445 = .ok (.getfield 237, 3) := by decide +kernel
theorem d_D_memoryWord_448 : decode c_D_memoryWord 448 = .ok (.iload 7, 2) := by decide +kernel
theorem d_D_memoryWord_450 : decode c_D_memoryWord 450 = .ok (.invokevirtual 309, 3) := by decide +kernel
theorem d_D_memoryWord_453 : decode c_D_memoryWord 453 = .ok (.return_, 1) := by decide +kernel
theorem kd_D_memoryWord : (y_D_memoryWord).cls = "WindowMachineModel" ∧ (y_D_memoryWord).cls ≠ "java/lang/invoke/MethodHandle" ∧ (y_D_memoryWord).cls ≠ "java/lang/invoke/VarHandle" ∧ (parseMethodDescriptor (y_D_memoryWord).desc).map (fun d => d.parameters.length) = some 3 := by decide +kernel
def m_memoryWord (st : SD) (p0 : Int32) (p1 : Int32) (p2 : Int32) : SD := (let x_1 := (if p1 < (8 : Int32) then (1 : Int32) else (if p1 = (9 : Int32) then (1 : Int32) else (if p1 = (10 : Int32) then (1 : Int32) else (if p1 = (13 : Int32) then (1 : Int32) else (if p1 = (15 : Int32) then (1 : Int32) else (0 : Int32)))))); (let x_8 := (if p1 = (3 : Int32) then (1 : Int32) else (if p1 = (7 : Int32) then (1 : Int32) else (0 : Int32))); (let x_12 := (if x_8 = (0 : Int32) then (if p1 = (0 : Int32) then (4 : Int32) else (if p1 = (4 : Int32) then (4 : Int32) else (if p1 = (15 : Int32) then (4 : Int32) else (if p1 = (2 : Int32) then (2 : Int32) else (if p1 = (6 : Int32) then (2 : Int32) else (if p1 = (10 : Int32) then (2 : Int32) else (1 : Int32))))))) else (8 : Int32)); (let x_21 := (if x_1 = (0 : Int32) then (1 : Int32) else (if x_8 = (0 : Int32) then (0 : Int32) else (if (p0 &&& (1 : Int32)) = (1 : Int32) then (1 : Int32) else (0 : Int32)))); (let u_26 := m_traps st x_21 (2 : Int32); (let x_27 := (if (p2 &&& (x_12 - (1 : Int32))) = (0 : Int32) then (0 : Int32) else (1 : Int32)); (let u_30 := m_traps u_26 x_27 (7 : Int32); (let r_31 := m_in p2.toInt64 (0 : Int64) (((1024 : Int32) - x_12).toInt64); (let x_32 := (if r_31 = (0 : Int32) then (1 : Int32) else (0 : Int32)); (let u_35 := m_traps u_30 x_32 (9 : Int32); (if (u_35.1 21) < (0 : Int32) then (let x_37 := (if x_8 = (0 : Int32) then x_12 else (4 : Int32)); (let r_40 := m_take u_35 p2 x_37; (let r_41 := m_get u_35 p0 (u_35.1 6); (if p1 = (3 : Int32) then (let r_44 := m_take u_35 (p2 + (4 : Int32)) (4 : Int32); (let u_45 := m_gives u_35 p0 (u_35.1 6) r_40; (let u_46 := m_gives u_45 (p0 + (1 : Int32)) (u_45.1 6) r_44; u_46))) else (if p1 = (4 : Int32) then (let u_48 := m_store u_35 p2 x_12 r_41; u_48) else (if p1 = (5 : Int32) then (let u_50 := m_store u_35 p2 x_12 r_41; u_50) else (if p1 = (6 : Int32) then (let u_52 := m_store u_35 p2 x_12 r_41; u_52) else (if p1 = (7 : Int32) then (let u_54 := m_store u_35 p2 (4 : Int32) r_41; (let r_55 := m_get u_54 (p0 + (1 : Int32)) (u_54.1 6); (let u_56 := m_store u_54 (p2 + (4 : Int32)) (4 : Int32) r_55; u_56))) else (if p1 = (9 : Int32) then (let u_58 := m_gives u_35 p0 (u_35.1 6) (zbyte r_40); u_58) else (if p1 = (10 : Int32) then (let u_60 := m_gives u_35 p0 (u_35.1 6) (zshort r_40); u_60) else (if p1 = (13 : Int32) then (let u_62 := m_store u_35 p2 (1 : Int32) (255 : Int32); (let u_63 := m_gives u_62 p0 (u_62.1 6) r_40; u_63)) else (if p1 = (15 : Int32) then (let u_65 := m_store u_35 p2 (4 : Int32) r_41; (let u_66 := m_gives u_65 p0 (u_65.1 6) r_40; u_66)) else (let u_67 := m_gives u_35 p0 (u_35.1 6) r_40; u_67))))))))))))) else u_35)))))))))))
set_option maxHeartbeats 4000000 in
set_option maxRecDepth 100000 in
theorem mt_D_memoryWord (l : Launch) (D : va_G) (h : Nat → Nat) (c : Nat → ClassId) (sz : Nat) (st : SD) (p0 : Int32) (p1 : Int32) (p2 : Int32) (hV : okV st) (hr9 : vp_in p0 32) : Met l y_D_memoryWord w_D_memoryWord ({ frames := 1, cells := 0, slots := 0, locals := 25 }) (va_Pc [.ref (h 20), .int p0, .int p1, .int p2] (zw_pre D vwCl [(c 21, .long), (c 22, .int), (c 23, .int), (c 24, .int), (c 25, .int), (c 26, .int), (c 27, .int), (c 28, .int)] sz (wD h c st) (fun _ => True))) (va_Qv (fun (u : SD) => u = m_memoryWord st p0 p1 p2) (fun u t => zw_at D vwCl (va_A (wD h c st) sz) ((fun (u : SD) => wD h c u) u) t) (va_A (wD h c st) sz)) 0 0 (va_A (wD h c st) sz) := by
  refine zm (Qf := fun A => va_Qv (fun (u : SD) => u = m_memoryWord st p0 p1 p2) (fun u t => zw_at D vwCl A ((fun (u : SD) => wD h c u) u) t) A) (Zf := fun _ _ => True) (cc := c_D_memoryWord) (nL := 10) (ret := none) (by decide) rfl (Nat.le_of_ble_eq_true rfl) ?_
  intro p e s m below meth c9 A H locs ls hx hb hml hown hts hr hlocks hA hK hP hD hS hZ hl
  have hl : lv_has ls 10 [(0, .ref (h 20)), (1, .int p0), (2, .int p1), (3, .int p2)] := hl
  have ht : ∀ w9 ∈ zT, w9.before _ s = true := fun w9 h9 => hts w9 (List.mem_cons_of_mem _ h9)
  refine lv_iload_n hx hb d_D_memoryWord_0 rfl (lv_at hl 2 rfl) ?_
  refine lv_bipush (v := (8 : Int32)) hx hb d_D_memoryWord_1 (by decide) ?_
  refine zcut (X := Int32) (G := fun v9 H locs ls => v9 = (if p1 < (8 : Int32) then (1 : Int32) else (if p1 = (9 : Int32) then (1 : Int32) else (if p1 = (10 : Int32) then (1 : Int32) else (if p1 = (13 : Int32) then (1 : Int32) else (if p1 = (15 : Int32) then (1 : Int32) else (0 : Int32)))))) ∧ va_P D vwCl (wD h c st) H ∧ va_D A (wD h c st) ∧ va_S A s.heap H locs ∧ lv_has ls 10 [(0, .ref (h 20)), (1, .int p0), (2, .int p1), (3, .int p2)]) (fr := fun v9 ls => F0 m 35 ls [.int v9]) (fun J_2 => ?_) (fun v9 H locs ls hG => ?_)
  · refine lv_icmp_lt (tgt := 30) hx hb d_D_memoryWord_3 (by decide) (fun c_3 => ?_) (fun c_3 => ?_)
    · refine lv_iconst (v := (1 : Int32)) hx hb d_D_memoryWord_30 (by decide) ?_
      refine lv_goto (tgt := 35) hx hb d_D_memoryWord_31 (by decide) ?_
      exact J_2 (1 : Int32) _ _ _ ⟨by simp only [if_pos c_3], hP, hD, hS, hl⟩
    refine lv_iload_n hx hb d_D_memoryWord_6 rfl (lv_at hl 2 rfl) ?_
    refine lv_bipush (v := (9 : Int32)) hx hb d_D_memoryWord_7 (by decide) ?_
    refine lv_icmp_eq (tgt := 30) hx hb d_D_memoryWord_9 (by decide) (fun c_4 => ?_) (fun c_4 => ?_)
    · refine lv_iconst (v := (1 : Int32)) hx hb d_D_memoryWord_30 (by decide) ?_
      refine lv_goto (tgt := 35) hx hb d_D_memoryWord_31 (by decide) ?_
      exact J_2 (1 : Int32) _ _ _ ⟨by simp only [if_neg c_3, if_pos c_4], hP, hD, hS, hl⟩
    refine lv_iload_n hx hb d_D_memoryWord_12 rfl (lv_at hl 2 rfl) ?_
    refine lv_bipush (v := (10 : Int32)) hx hb d_D_memoryWord_13 (by decide) ?_
    refine lv_icmp_eq (tgt := 30) hx hb d_D_memoryWord_15 (by decide) (fun c_5 => ?_) (fun c_5 => ?_)
    · refine lv_iconst (v := (1 : Int32)) hx hb d_D_memoryWord_30 (by decide) ?_
      refine lv_goto (tgt := 35) hx hb d_D_memoryWord_31 (by decide) ?_
      exact J_2 (1 : Int32) _ _ _ ⟨by simp only [if_neg c_3, if_neg c_4, if_pos c_5], hP, hD, hS, hl⟩
    refine lv_iload_n hx hb d_D_memoryWord_18 rfl (lv_at hl 2 rfl) ?_
    refine lv_bipush (v := (13 : Int32)) hx hb d_D_memoryWord_19 (by decide) ?_
    refine lv_icmp_eq (tgt := 30) hx hb d_D_memoryWord_21 (by decide) (fun c_6 => ?_) (fun c_6 => ?_)
    · refine lv_iconst (v := (1 : Int32)) hx hb d_D_memoryWord_30 (by decide) ?_
      refine lv_goto (tgt := 35) hx hb d_D_memoryWord_31 (by decide) ?_
      exact J_2 (1 : Int32) _ _ _ ⟨by simp only [if_neg c_3, if_neg c_4, if_neg c_5, if_pos c_6], hP, hD, hS, hl⟩
    refine lv_iload_n hx hb d_D_memoryWord_24 rfl (lv_at hl 2 rfl) ?_
    refine lv_bipush (v := (15 : Int32)) hx hb d_D_memoryWord_25 (by decide) ?_
    refine lv_icmp_ne (tgt := 34) hx hb d_D_memoryWord_27 (by decide) (fun c_7 => ?_) (fun c_7 => ?_)
    · refine lv_iconst (v := (0 : Int32)) hx hb d_D_memoryWord_34 (by decide) ?_
      exact J_2 (0 : Int32) _ _ _ ⟨by simp only [if_neg c_3, if_neg c_4, if_neg c_5, if_neg c_6, if_neg c_7], hP, hD, hS, hl⟩
    refine lv_iconst (v := (1 : Int32)) hx hb d_D_memoryWord_30 (by decide) ?_
    refine lv_goto (tgt := 35) hx hb d_D_memoryWord_31 (by decide) ?_
    exact J_2 (1 : Int32) _ _ _ ⟨by simp only [if_neg c_3, if_neg c_4, if_neg c_5, if_neg c_6, if_pos c_7], hP, hD, hS, hl⟩
  obtain ⟨x_1, rfl⟩ : ∃ z, z = v9 := ⟨_, rfl⟩
  obtain ⟨ex_1, hP, hD, hS, hl⟩ := hG
  have zbx_1 : zB x_1 := by rw [ex_1]; repeat' first | with_reducible exact zB0 | with_reducible exact zB1 | with_reducible assumption | with_reducible refine zB_ite ?_ ?_
  refine lv_istore (lv' := [(4, .int x_1), (0, .ref (h 20)), (1, .int p0), (2, .int p1), (3, .int p2)]) hx hb d_D_memoryWord_35 hl (by decide) rfl (fun ls hl => ?_)
  refine lv_iload_n hx hb d_D_memoryWord_37 rfl (lv_at hl 3 rfl) ?_
  refine lv_iconst (v := (3 : Int32)) hx hb d_D_memoryWord_38 (by decide) ?_
  refine zcut (X := Int32) (G := fun v9 H locs ls => v9 = (if p1 = (3 : Int32) then (1 : Int32) else (if p1 = (7 : Int32) then (1 : Int32) else (0 : Int32))) ∧ va_P D vwCl (wD h c st) H ∧ va_D A (wD h c st) ∧ va_S A s.heap H locs ∧ lv_has ls 10 [(0, .ref (h 20)), (1, .int p0), (2, .int p1), (3, .int p2), (4, .int x_1)]) (fr := fun v9 ls => F0 m 53 ls [.int v9]) (fun J_9 => ?_) (fun v9 H locs ls hG => ?_)
  · refine lv_icmp_eq (tgt := 48) hx hb d_D_memoryWord_39 (by decide) (fun c_10 => ?_) (fun c_10 => ?_)
    · refine lv_iconst (v := (1 : Int32)) hx hb d_D_memoryWord_48 (by decide) ?_
      refine lv_goto (tgt := 53) hx hb d_D_memoryWord_49 (by decide) ?_
      exact J_9 (1 : Int32) _ _ _ ⟨by simp only [if_pos c_10], hP, hD, hS, (lv_sub hl [1, 2, 3, 4, 0] rfl)⟩
    refine lv_iload_n hx hb d_D_memoryWord_42 rfl (lv_at hl 3 rfl) ?_
    refine lv_bipush (v := (7 : Int32)) hx hb d_D_memoryWord_43 (by decide) ?_
    refine lv_icmp_ne (tgt := 52) hx hb d_D_memoryWord_45 (by decide) (fun c_11 => ?_) (fun c_11 => ?_)
    · refine lv_iconst (v := (0 : Int32)) hx hb d_D_memoryWord_52 (by decide) ?_
      exact J_9 (0 : Int32) _ _ _ ⟨by simp only [if_neg c_10, if_neg c_11], hP, hD, hS, (lv_sub hl [1, 2, 3, 4, 0] rfl)⟩
    refine lv_iconst (v := (1 : Int32)) hx hb d_D_memoryWord_48 (by decide) ?_
    refine lv_goto (tgt := 53) hx hb d_D_memoryWord_49 (by decide) ?_
    exact J_9 (1 : Int32) _ _ _ ⟨by simp only [if_neg c_10, if_pos c_11], hP, hD, hS, (lv_sub hl [1, 2, 3, 4, 0] rfl)⟩
  obtain ⟨x_8, rfl⟩ : ∃ z, z = v9 := ⟨_, rfl⟩
  obtain ⟨ex_8, hP, hD, hS, hl⟩ := hG
  have zbx_8 : zB x_8 := by rw [ex_8]; repeat' first | with_reducible exact zB0 | with_reducible exact zB1 | with_reducible assumption | with_reducible refine zB_ite ?_ ?_
  refine lv_istore (lv' := [(5, .int x_8), (0, .ref (h 20)), (1, .int p0), (2, .int p1), (3, .int p2), (4, .int x_1)]) hx hb d_D_memoryWord_53 hl (by decide) rfl (fun ls hl => ?_)
  refine lv_iload hx hb d_D_memoryWord_55 (lv_at hl 0 rfl) ?_
  refine zcut (X := Int32) (G := fun v9 H locs ls => v9 = (if x_8 = (0 : Int32) then (if p1 = (0 : Int32) then (4 : Int32) else (if p1 = (4 : Int32) then (4 : Int32) else (if p1 = (15 : Int32) then (4 : Int32) else (if p1 = (2 : Int32) then (2 : Int32) else (if p1 = (6 : Int32) then (2 : Int32) else (if p1 = (10 : Int32) then (2 : Int32) else (1 : Int32))))))) else (8 : Int32)) ∧ va_P D vwCl (wD h c st) H ∧ va_D A (wD h c st) ∧ va_S A s.heap H locs ∧ lv_has ls 10 [(0, .ref (h 20)), (1, .int p0), (2, .int p1), (3, .int p2), (4, .int x_1), (5, .int x_8)]) (fr := fun v9 ls => F0 m 106 ls [.int v9]) (fun J_13 => ?_) (fun v9 H locs ls hG => ?_)
  · refine lv_if_eq (tgt := 65) hx hb d_D_memoryWord_57 (by decide) (fun c_14 => ?_) (fun c_14 => ?_)
    · refine lv_iload_n hx hb d_D_memoryWord_65 rfl (lv_at hl 3 rfl) ?_
      refine lv_if_eq (tgt := 80) hx hb d_D_memoryWord_66 (by decide) (fun c_15 => ?_) (fun c_15 => ?_)
      · refine lv_iconst (v := (4 : Int32)) hx hb d_D_memoryWord_80 (by decide) ?_
        refine lv_goto (tgt := 106) hx hb d_D_memoryWord_81 (by decide) ?_
        exact J_13 (4 : Int32) _ _ _ ⟨by simp only [if_pos c_14, if_pos c_15], hP, hD, hS, (lv_sub hl [1, 2, 3, 4, 5, 0] rfl)⟩
      refine lv_iload_n hx hb d_D_memoryWord_69 rfl (lv_at hl 3 rfl) ?_
      refine lv_iconst (v := (4 : Int32)) hx hb d_D_memoryWord_70 (by decide) ?_
      refine lv_icmp_eq (tgt := 80) hx hb d_D_memoryWord_71 (by decide) (fun c_16 => ?_) (fun c_16 => ?_)
      · refine lv_iconst (v := (4 : Int32)) hx hb d_D_memoryWord_80 (by decide) ?_
        refine lv_goto (tgt := 106) hx hb d_D_memoryWord_81 (by decide) ?_
        exact J_13 (4 : Int32) _ _ _ ⟨by simp only [if_pos c_14, if_neg c_15, if_pos c_16], hP, hD, hS, (lv_sub hl [1, 2, 3, 4, 5, 0] rfl)⟩
      refine lv_iload_n hx hb d_D_memoryWord_74 rfl (lv_at hl 3 rfl) ?_
      refine lv_bipush (v := (15 : Int32)) hx hb d_D_memoryWord_75 (by decide) ?_
      refine lv_icmp_ne (tgt := 84) hx hb d_D_memoryWord_77 (by decide) (fun c_17 => ?_) (fun c_17 => ?_)
      · refine lv_iload_n hx hb d_D_memoryWord_84 rfl (lv_at hl 3 rfl) ?_
        refine lv_iconst (v := (2 : Int32)) hx hb d_D_memoryWord_85 (by decide) ?_
        refine lv_icmp_eq (tgt := 101) hx hb d_D_memoryWord_86 (by decide) (fun c_18 => ?_) (fun c_18 => ?_)
        · refine lv_iconst (v := (2 : Int32)) hx hb d_D_memoryWord_101 (by decide) ?_
          refine lv_goto (tgt := 106) hx hb d_D_memoryWord_102 (by decide) ?_
          exact J_13 (2 : Int32) _ _ _ ⟨by simp only [if_pos c_14, if_neg c_15, if_neg c_16, if_neg c_17, if_pos c_18], hP, hD, hS, (lv_sub hl [1, 2, 3, 4, 5, 0] rfl)⟩
        refine lv_iload_n hx hb d_D_memoryWord_89 rfl (lv_at hl 3 rfl) ?_
        refine lv_bipush (v := (6 : Int32)) hx hb d_D_memoryWord_90 (by decide) ?_
        refine lv_icmp_eq (tgt := 101) hx hb d_D_memoryWord_92 (by decide) (fun c_19 => ?_) (fun c_19 => ?_)
        · refine lv_iconst (v := (2 : Int32)) hx hb d_D_memoryWord_101 (by decide) ?_
          refine lv_goto (tgt := 106) hx hb d_D_memoryWord_102 (by decide) ?_
          exact J_13 (2 : Int32) _ _ _ ⟨by simp only [if_pos c_14, if_neg c_15, if_neg c_16, if_neg c_17, if_neg c_18, if_pos c_19], hP, hD, hS, (lv_sub hl [1, 2, 3, 4, 5, 0] rfl)⟩
        refine lv_iload_n hx hb d_D_memoryWord_95 rfl (lv_at hl 3 rfl) ?_
        refine lv_bipush (v := (10 : Int32)) hx hb d_D_memoryWord_96 (by decide) ?_
        refine lv_icmp_ne (tgt := 105) hx hb d_D_memoryWord_98 (by decide) (fun c_20 => ?_) (fun c_20 => ?_)
        · refine lv_iconst (v := (1 : Int32)) hx hb d_D_memoryWord_105 (by decide) ?_
          exact J_13 (1 : Int32) _ _ _ ⟨by simp only [if_pos c_14, if_neg c_15, if_neg c_16, if_neg c_17, if_neg c_18, if_neg c_19, if_neg c_20], hP, hD, hS, (lv_sub hl [1, 2, 3, 4, 5, 0] rfl)⟩
        refine lv_iconst (v := (2 : Int32)) hx hb d_D_memoryWord_101 (by decide) ?_
        refine lv_goto (tgt := 106) hx hb d_D_memoryWord_102 (by decide) ?_
        exact J_13 (2 : Int32) _ _ _ ⟨by simp only [if_pos c_14, if_neg c_15, if_neg c_16, if_neg c_17, if_neg c_18, if_neg c_19, if_pos c_20], hP, hD, hS, (lv_sub hl [1, 2, 3, 4, 5, 0] rfl)⟩
      refine lv_iconst (v := (4 : Int32)) hx hb d_D_memoryWord_80 (by decide) ?_
      refine lv_goto (tgt := 106) hx hb d_D_memoryWord_81 (by decide) ?_
      exact J_13 (4 : Int32) _ _ _ ⟨by simp only [if_pos c_14, if_neg c_15, if_neg c_16, if_pos c_17], hP, hD, hS, (lv_sub hl [1, 2, 3, 4, 5, 0] rfl)⟩
    refine lv_bipush (v := (8 : Int32)) hx hb d_D_memoryWord_60 (by decide) ?_
    refine lv_goto (tgt := 106) hx hb d_D_memoryWord_62 (by decide) ?_
    exact J_13 (8 : Int32) _ _ _ ⟨by simp only [if_neg c_14], hP, hD, hS, (lv_sub hl [1, 2, 3, 4, 5, 0] rfl)⟩
  obtain ⟨x_12, rfl⟩ : ∃ z, z = v9 := ⟨_, rfl⟩
  obtain ⟨ex_12, hP, hD, hS, hl⟩ := hG
  refine lv_istore (lv' := [(6, .int x_12), (0, .ref (h 20)), (1, .int p0), (2, .int p1), (3, .int p2), (4, .int x_1), (5, .int x_8)]) hx hb d_D_memoryWord_106 hl (by decide) rfl (fun ls hl => ?_)
  refine lv_aload_n hx hb d_D_memoryWord_108 rfl (lv_at hl 1 rfl) ?_
  refine lv_iload hx hb d_D_memoryWord_109 (lv_at hl 5 rfl) ?_
  refine zcut (X := Int32) (G := fun v9 H locs ls => v9 = (if x_1 = (0 : Int32) then (1 : Int32) else (if x_8 = (0 : Int32) then (0 : Int32) else (if (p0 &&& (1 : Int32)) = (1 : Int32) then (1 : Int32) else (0 : Int32)))) ∧ va_P D vwCl (wD h c st) H ∧ va_D A (wD h c st) ∧ va_S A s.heap H locs ∧ lv_has ls 10 [(0, .ref (h 20)), (1, .int p0), (2, .int p1), (3, .int p2), (4, .int x_1), (5, .int x_8), (6, .int x_12)]) (fr := fun v9 ls => F0 m 131 ls [.int v9, .ref (h 20)]) (fun J_22 => ?_) (fun v9 H locs ls hG => ?_)
  · refine lv_if_eq (tgt := 126) hx hb d_D_memoryWord_111 (by decide) (fun c_23 => ?_) (fun c_23 => ?_)
    · refine lv_iconst (v := (1 : Int32)) hx hb d_D_memoryWord_126 (by decide) ?_
      refine lv_goto (tgt := 131) hx hb d_D_memoryWord_127 (by decide) ?_
      exact J_22 (1 : Int32) _ _ _ ⟨by simp only [if_pos c_23], hP, hD, hS, (lv_sub hl [1, 2, 3, 4, 5, 6, 0] rfl)⟩
    refine lv_iload hx hb d_D_memoryWord_114 (lv_at hl 6 rfl) ?_
    refine lv_if_eq (tgt := 130) hx hb d_D_memoryWord_116 (by decide) (fun c_24 => ?_) (fun c_24 => ?_)
    · refine lv_iconst (v := (0 : Int32)) hx hb d_D_memoryWord_130 (by decide) ?_
      exact J_22 (0 : Int32) _ _ _ ⟨by simp only [if_neg c_23, if_pos c_24], hP, hD, hS, (lv_sub hl [1, 2, 3, 4, 5, 6, 0] rfl)⟩
    refine lv_iload_n hx hb d_D_memoryWord_119 rfl (lv_at hl 2 rfl) ?_
    refine lv_iconst (v := (1 : Int32)) hx hb d_D_memoryWord_120 (by decide) ?_
    refine lv_iand hx hb d_D_memoryWord_121 ?_
    refine lv_iconst (v := (1 : Int32)) hx hb d_D_memoryWord_122 (by decide) ?_
    refine lv_icmp_ne (tgt := 130) hx hb d_D_memoryWord_123 (by decide) (fun c_25 => ?_) (fun c_25 => ?_)
    · refine lv_iconst (v := (0 : Int32)) hx hb d_D_memoryWord_130 (by decide) ?_
      exact J_22 (0 : Int32) _ _ _ ⟨by simp only [if_neg c_23, if_neg c_24, if_neg c_25], hP, hD, hS, (lv_sub hl [1, 2, 3, 4, 5, 6, 0] rfl)⟩
    refine lv_iconst (v := (1 : Int32)) hx hb d_D_memoryWord_126 (by decide) ?_
    refine lv_goto (tgt := 131) hx hb d_D_memoryWord_127 (by decide) ?_
    exact J_22 (1 : Int32) _ _ _ ⟨by simp only [if_neg c_23, if_neg c_24, if_pos c_25], hP, hD, hS, (lv_sub hl [1, 2, 3, 4, 5, 6, 0] rfl)⟩
  obtain ⟨x_21, rfl⟩ : ∃ z, z = v9 := ⟨_, rfl⟩
  obtain ⟨ex_21, hP, hD, hS, hl⟩ := hG
  have zbx_21 : zB x_21 := by rw [ex_21]; repeat' first | with_reducible exact zB0 | with_reducible exact zB1 | with_reducible assumption | with_reducible refine zB_ite ?_ ?_
  refine lv_iconst (v := (2 : Int32)) hx hb d_D_memoryWord_131 (by decide) ?_
  refine zc_v (w2 := fun u9 => wD h c u9) (va_runV (As := [.int x_21, .int (2 : Int32)]) (rest := []) ⟨hx, hb, hml, hown, ht⟩ (mt_D_traps l D h c H.size st x_21 (2 : Int32)) (cwV 2 ht (zgV zw_1007 zw_1009 zs_59 zw_7 zw_1010) rfl rfl rfl kd_D_traps ⟨Nat.le_of_ble_eq_true rfl, Nat.le_of_ble_eq_true rfl⟩) ⟨zw_blind zw_tt, va_recv (hK.sub (tys' := [(c 21, .long), (c 22, .int), (c 23, .int), (c 24, .int), (c 25, .int), (c 26, .int), (c 27, .int), (c 28, .int)]) [0, 1, 2, 3, 4, 5, 6, 7] rfl) (hP.sub (ws' := wD h c st) [0, 1, 2, 3, 4, 5, 6, 7, 8] rfl) (ci := 6) (q0 := 0) rfl rfl, zw_go (hP.sub (ws' := wD h c st) [0, 1, 2, 3, 4, 5, 6, 7, 8] rfl) (hD.sub (ws' := wD h c st) [0, 1, 2, 3, 4, 5, 6, 7, 8] (by decide) rfl) (hK.sub (tys' := [(c 21, .long), (c 22, .int), (c 23, .int), (c 24, .int), (c 25, .int), (c 26, .int), (c 27, .int), (c 28, .int)]) [0, 1, 2, 3, 4, 5, 6, 7] rfl) (fun _ _ _ => trivial)⟩ rfl rfl hl.1 rfl (lv_room (Nat.le_of_ble_eq_true rfl)) d_D_memoryWord_132 ⟨Nat.le_of_ble_eq_true rfl, Nat.le_of_ble_eq_true rfl⟩) hP hD hS hA [0, 1, 2, 3, 4, 5, 6, 7, 8] [] [0, 1, 2, 3, 4, 5, 6, 7, 8] rfl rfl (by decide) (by decide) (by decide) (fun _ => rfl) (fun u_26 H locs hw hP hD hS => ?_)
  have eu_26 := hw
  have ok_26 : okV u_26 := by rw [eu_26]; exact (ov_traps hV)
  refine lv_aload_n hx hb d_D_memoryWord_135 rfl (lv_at hl 0 rfl) ?_
  refine lv_iload_n hx hb d_D_memoryWord_136 rfl (lv_at hl 3 rfl) ?_
  refine lv_iload hx hb d_D_memoryWord_137 (lv_at hl 6 rfl) ?_
  refine lv_iconst (v := (1 : Int32)) hx hb d_D_memoryWord_139 (by decide) ?_
  refine lv_isub hx hb d_D_memoryWord_140 ?_
  refine lv_iand hx hb d_D_memoryWord_141 ?_
  refine zcut (X := Int32) (G := fun v9 H locs ls => v9 = (if (p2 &&& (x_12 - (1 : Int32))) = (0 : Int32) then (0 : Int32) else (1 : Int32)) ∧ va_P D vwCl (wD h c u_26) H ∧ va_D A (wD h c u_26) ∧ va_S A s.heap H locs ∧ lv_has ls 10 [(0, .ref (h 20)), (1, .int p0), (2, .int p1), (3, .int p2), (4, .int x_1), (5, .int x_8), (6, .int x_12)]) (fr := fun v9 ls => F0 m 150 ls [.int v9, .ref (h 20)]) (fun J_28 => ?_) (fun v9 H locs ls hG => ?_)
  · refine lv_if_eq (tgt := 149) hx hb d_D_memoryWord_142 (by decide) (fun c_29 => ?_) (fun c_29 => ?_)
    · refine lv_iconst (v := (0 : Int32)) hx hb d_D_memoryWord_149 (by decide) ?_
      exact J_28 (0 : Int32) _ _ _ ⟨by simp only [if_pos c_29], hP, hD, hS, hl⟩
    refine lv_iconst (v := (1 : Int32)) hx hb d_D_memoryWord_145 (by decide) ?_
    refine lv_goto (tgt := 150) hx hb d_D_memoryWord_146 (by decide) ?_
    exact J_28 (1 : Int32) _ _ _ ⟨by simp only [if_neg c_29], hP, hD, hS, hl⟩
  obtain ⟨x_27, rfl⟩ : ∃ z, z = v9 := ⟨_, rfl⟩
  obtain ⟨ex_27, hP, hD, hS, hl⟩ := hG
  have zbx_27 : zB x_27 := by rw [ex_27]; repeat' first | with_reducible exact zB0 | with_reducible exact zB1 | with_reducible assumption | with_reducible refine zB_ite ?_ ?_
  refine lv_bipush (v := (7 : Int32)) hx hb d_D_memoryWord_150 (by decide) ?_
  refine zc_v (w2 := fun u9 => wD h c u9) (va_runV (As := [.int x_27, .int (7 : Int32)]) (rest := []) ⟨hx, hb, hml, hown, ht⟩ (mt_D_traps l D h c H.size u_26 x_27 (7 : Int32)) (cwV 2 ht (zgV zw_1007 zw_1009 zs_59 zw_7 zw_1010) rfl rfl rfl kd_D_traps ⟨Nat.le_of_ble_eq_true rfl, Nat.le_of_ble_eq_true rfl⟩) ⟨zw_blind zw_tt, va_recv (hK.sub (tys' := [(c 21, .long), (c 22, .int), (c 23, .int), (c 24, .int), (c 25, .int), (c 26, .int), (c 27, .int), (c 28, .int)]) [0, 1, 2, 3, 4, 5, 6, 7] rfl) (hP.sub (ws' := wD h c u_26) [0, 1, 2, 3, 4, 5, 6, 7, 8] rfl) (ci := 6) (q0 := 0) rfl rfl, zw_go (hP.sub (ws' := wD h c u_26) [0, 1, 2, 3, 4, 5, 6, 7, 8] rfl) (hD.sub (ws' := wD h c u_26) [0, 1, 2, 3, 4, 5, 6, 7, 8] (by decide) rfl) (hK.sub (tys' := [(c 21, .long), (c 22, .int), (c 23, .int), (c 24, .int), (c 25, .int), (c 26, .int), (c 27, .int), (c 28, .int)]) [0, 1, 2, 3, 4, 5, 6, 7] rfl) (fun _ _ _ => trivial)⟩ rfl rfl hl.1 rfl (lv_room (Nat.le_of_ble_eq_true rfl)) d_D_memoryWord_152 ⟨Nat.le_of_ble_eq_true rfl, Nat.le_of_ble_eq_true rfl⟩) hP hD hS hA [0, 1, 2, 3, 4, 5, 6, 7, 8] [] [0, 1, 2, 3, 4, 5, 6, 7, 8] rfl rfl (by decide) (by decide) (by decide) (fun _ => rfl) (fun u_30 H locs hw hP hD hS => ?_)
  have eu_30 := hw
  have ok_30 : okV u_30 := by rw [eu_30]; exact (ov_traps ok_26)
  refine lv_aload_n hx hb d_D_memoryWord_155 rfl (lv_at hl 0 rfl) ?_
  refine lv_iload_n hx hb d_D_memoryWord_156 rfl (lv_at hl 3 rfl) ?_
  refine lv_i2l (v := p2.toInt64) hx hb d_D_memoryWord_157 rfl ?_
  refine lv_lconst (v := (0 : Int64)) hx hb d_D_memoryWord_158 (by decide) ?_
  refine lv_sipush (v := (1024 : Int32)) hx hb d_D_memoryWord_159 (by decide) ?_
  refine lv_iload hx hb d_D_memoryWord_162 (lv_at hl 6 rfl) ?_
  refine lv_isub hx hb d_D_memoryWord_164 ?_
  refine lv_i2l (v := ((1024 : Int32) - x_12).toInt64) hx hb d_D_memoryWord_165 rfl ?_
  refine zc_i (w2 := fun _ => wD h c u_30) (va_runS (As := [.long p2.toInt64, .long (0 : Int64), .long (((1024 : Int32) - x_12).toInt64)]) (rest := [.ref (h 20)]) ⟨hx, hb, hml, hown, ht⟩ (mt_D_in l D H.size p2.toInt64 (0 : Int64) (((1024 : Int32) - x_12).toInt64)) (cwS 3 ht (zgS zw_961 zw_962 zw_7 zw_963) rfl rfl rfl kd_D_in ⟨Nat.le_of_ble_eq_true rfl, Nat.le_of_ble_eq_true rfl⟩) ⟨zw_blind zw_tt, zw_go (hP.sub (ws' := []) [] rfl) (hD.sub (ws' := []) [] (by decide) rfl) (hK.sub (tys' := []) [] rfl) (fun _ _ _ => trivial)⟩ rfl rfl hl.1 rfl (lv_room (Nat.le_of_ble_eq_true rfl)) d_D_memoryWord_166 ⟨Nat.le_of_ble_eq_true rfl, Nat.le_of_ble_eq_true rfl⟩) hP hD hS hA [] [0, 1, 2, 3, 4, 5, 6, 7, 8] [0, 1, 2, 3, 4, 5, 6, 7, 8] rfl rfl (by decide) (by decide) (by decide) (fun _ => rfl) (fun r_31 _ H locs hw hP hD hS => ?_)
  have er_31 := hw
  refine zcut (X := Int32) (G := fun v9 H locs ls => v9 = (if r_31 = (0 : Int32) then (1 : Int32) else (0 : Int32)) ∧ va_P D vwCl (wD h c u_30) H ∧ va_D A (wD h c u_30) ∧ va_S A s.heap H locs ∧ lv_has ls 10 [(0, .ref (h 20)), (1, .int p0), (2, .int p1), (3, .int p2), (4, .int x_1), (5, .int x_8), (6, .int x_12)]) (fr := fun v9 ls => F0 m 177 ls [.int v9, .ref (h 20)]) (fun J_33 => ?_) (fun v9 H locs ls hG => ?_)
  · refine lv_if_ne (tgt := 176) hx hb d_D_memoryWord_169 (by decide) (fun c_34 => ?_) (fun c_34 => ?_)
    · refine lv_iconst (v := (0 : Int32)) hx hb d_D_memoryWord_176 (by decide) ?_
      exact J_33 (0 : Int32) _ _ _ ⟨by simp only [if_neg c_34], hP, hD, hS, hl⟩
    refine lv_iconst (v := (1 : Int32)) hx hb d_D_memoryWord_172 (by decide) ?_
    refine lv_goto (tgt := 177) hx hb d_D_memoryWord_173 (by decide) ?_
    exact J_33 (1 : Int32) _ _ _ ⟨by simp only [if_pos c_34], hP, hD, hS, hl⟩
  obtain ⟨x_32, rfl⟩ : ∃ z, z = v9 := ⟨_, rfl⟩
  obtain ⟨ex_32, hP, hD, hS, hl⟩ := hG
  have zbx_32 : zB x_32 := by rw [ex_32]; repeat' first | with_reducible exact zB0 | with_reducible exact zB1 | with_reducible assumption | with_reducible refine zB_ite ?_ ?_
  refine lv_bipush (v := (9 : Int32)) hx hb d_D_memoryWord_177 (by decide) ?_
  refine zc_v (w2 := fun u9 => wD h c u9) (va_runV (As := [.int x_32, .int (9 : Int32)]) (rest := []) ⟨hx, hb, hml, hown, ht⟩ (mt_D_traps l D h c H.size u_30 x_32 (9 : Int32)) (cwV 2 ht (zgV zw_1007 zw_1009 zs_59 zw_7 zw_1010) rfl rfl rfl kd_D_traps ⟨Nat.le_of_ble_eq_true rfl, Nat.le_of_ble_eq_true rfl⟩) ⟨zw_blind zw_tt, va_recv (hK.sub (tys' := [(c 21, .long), (c 22, .int), (c 23, .int), (c 24, .int), (c 25, .int), (c 26, .int), (c 27, .int), (c 28, .int)]) [0, 1, 2, 3, 4, 5, 6, 7] rfl) (hP.sub (ws' := wD h c u_30) [0, 1, 2, 3, 4, 5, 6, 7, 8] rfl) (ci := 6) (q0 := 0) rfl rfl, zw_go (hP.sub (ws' := wD h c u_30) [0, 1, 2, 3, 4, 5, 6, 7, 8] rfl) (hD.sub (ws' := wD h c u_30) [0, 1, 2, 3, 4, 5, 6, 7, 8] (by decide) rfl) (hK.sub (tys' := [(c 21, .long), (c 22, .int), (c 23, .int), (c 24, .int), (c 25, .int), (c 26, .int), (c 27, .int), (c 28, .int)]) [0, 1, 2, 3, 4, 5, 6, 7] rfl) (fun _ _ _ => trivial)⟩ rfl rfl hl.1 rfl (lv_room (Nat.le_of_ble_eq_true rfl)) d_D_memoryWord_179 ⟨Nat.le_of_ble_eq_true rfl, Nat.le_of_ble_eq_true rfl⟩) hP hD hS hA [0, 1, 2, 3, 4, 5, 6, 7, 8] [] [0, 1, 2, 3, 4, 5, 6, 7, 8] rfl rfl (by decide) (by decide) (by decide) (fun _ => rfl) (fun u_35 H locs hw hP hD hS => ?_)
  have eu_35 := hw
  have ok_35 : okV u_35 := by rw [eu_35]; exact (ov_traps ok_30)
  refine lv_aload_n hx hb d_D_memoryWord_182 rfl (lv_at hl 0 rfl) ?_
  refine va_get (D := D) (ci := 6) (v := .int (u_35.1 21)) (C := "WindowMachineModel") (T := T_D) (N := 31) hx hb ht zi_D hown hK hP 0 rfl rfl 29 (by decide) (ht _ zw_883) (fun _ h9 => h9) rfl d_D_memoryWord_183 ?_
  refine lv_if_lt (tgt := 190) hx hb d_D_memoryWord_186 (by decide) (fun c_36 => ?_) (fun c_36 => ?_)
  · refine lv_aload_n hx hb d_D_memoryWord_190 rfl (lv_at hl 0 rfl) ?_
    refine lv_iload_n hx hb d_D_memoryWord_191 rfl (lv_at hl 3 rfl) ?_
    refine lv_iload hx hb d_D_memoryWord_192 (lv_at hl 5 rfl) ?_
    refine zcut (X := Int32) (G := fun v9 H locs ls => v9 = (if x_8 = (0 : Int32) then x_12 else (4 : Int32)) ∧ va_P D vwCl (wD h c u_35) H ∧ va_D A (wD h c u_35) ∧ va_S A s.heap H locs ∧ lv_has ls 10 [(0, .ref (h 20)), (1, .int p0), (2, .int p1), (3, .int p2), (4, .int x_1), (5, .int x_8), (6, .int x_12)]) (fr := fun v9 ls => F0 m 203 ls [.int v9, .int p2, .ref (h 20)]) (fun J_38 => ?_) (fun v9 H locs ls hG => ?_)
    · refine lv_if_eq (tgt := 201) hx hb d_D_memoryWord_194 (by decide) (fun c_39 => ?_) (fun c_39 => ?_)
      · refine lv_iload hx hb d_D_memoryWord_201 (lv_at hl 6 rfl) ?_
        exact J_38 x_12 _ _ _ ⟨by simp only [if_pos c_39], hP, hD, hS, hl⟩
      refine lv_iconst (v := (4 : Int32)) hx hb d_D_memoryWord_197 (by decide) ?_
      refine lv_goto (tgt := 203) hx hb d_D_memoryWord_198 (by decide) ?_
      exact J_38 (4 : Int32) _ _ _ ⟨by simp only [if_neg c_39], hP, hD, hS, hl⟩
    obtain ⟨x_37, rfl⟩ : ∃ z, z = v9 := ⟨_, rfl⟩
    obtain ⟨ex_37, hP, hD, hS, hl⟩ := hG
    refine zc_i (w2 := fun _ => wD h c u_35) (va_runV (As := [.int p2, .int x_37]) (rest := []) ⟨hx, hb, hml, hown, ht⟩ (mt_D_take l D h c H.size u_35 p2 x_37 (mw_tk (mw_all ex_8 ex_12 ex_21 eu_26 eu_30 er_31 ex_32 eu_35 c_36) ex_37)) (cwV 2 ht (zgV zw_968 zw_970 zs_54 zw_7 zw_971) rfl rfl rfl kd_D_take ⟨Nat.le_of_ble_eq_true rfl, Nat.le_of_ble_eq_true rfl⟩) ⟨zw_blind zw_tt, va_recv (hK.sub (tys' := [(c 21, .long), (c 22, .int), (c 23, .int), (c 24, .int), (c 25, .int), (c 26, .int), (c 27, .int), (c 28, .int)]) [0, 1, 2, 3, 4, 5, 6, 7] rfl) (hP.sub (ws' := wD h c u_35) [0, 1, 2, 3, 4, 5, 6, 7, 8] rfl) (ci := 6) (q0 := 0) rfl rfl, zw_go (hP.sub (ws' := wD h c u_35) [0, 1, 2, 3, 4, 5, 6, 7, 8] rfl) (hD.sub (ws' := wD h c u_35) [0, 1, 2, 3, 4, 5, 6, 7, 8] (by decide) rfl) (hK.sub (tys' := [(c 21, .long), (c 22, .int), (c 23, .int), (c 24, .int), (c 25, .int), (c 26, .int), (c 27, .int), (c 28, .int)]) [0, 1, 2, 3, 4, 5, 6, 7] rfl) (fun _ _ _ => trivial)⟩ rfl rfl hl.1 rfl (lv_room (Nat.le_of_ble_eq_true rfl)) d_D_memoryWord_203 ⟨Nat.le_of_ble_eq_true rfl, Nat.le_of_ble_eq_true rfl⟩) hP hD hS hA [0, 1, 2, 3, 4, 5, 6, 7, 8] [] [0, 1, 2, 3, 4, 5, 6, 7, 8] rfl rfl (by decide) (by decide) (by decide) (fun _ => rfl) (fun r_40 _ H locs hw hP hD hS => ?_)
    have er_40 := hw
    refine lv_istore (lv' := [(7, .int r_40), (0, .ref (h 20)), (1, .int p0), (2, .int p1), (3, .int p2), (4, .int x_1), (5, .int x_8), (6, .int x_12)]) hx hb d_D_memoryWord_206 hl (by decide) rfl (fun ls hl => ?_)
    refine lv_aload_n hx hb d_D_memoryWord_208 rfl (lv_at hl 1 rfl) ?_
    refine lv_iload_n hx hb d_D_memoryWord_209 rfl (lv_at hl 2 rfl) ?_
    refine lv_aload_n hx hb d_D_memoryWord_210 rfl (lv_at hl 1 rfl) ?_
    refine va_get (D := D) (ci := 6) (v := .int (u_35.1 6)) (C := "WindowMachineModel") (T := T_D) (N := 31) hx hb ht zi_D hown hK hP 0 rfl rfl 14 (by decide) (ht _ zw_868) (fun _ h9 => h9) rfl d_D_memoryWord_211 ?_
    refine zc_i (w2 := fun _ => wD h c u_35) (va_runV (As := [.int p0, .int (u_35.1 6)]) (rest := []) ⟨hx, hb, hml, hown, ht⟩ (mt_D_get l D h c H.size u_35 p0 (u_35.1 6) hr9 (ok_35).1) (cwV 2 ht (zgV zw_986 zw_988 zs_56 zw_7 zw_989) rfl rfl rfl kd_D_get ⟨Nat.le_of_ble_eq_true rfl, Nat.le_of_ble_eq_true rfl⟩) ⟨zw_blind zw_tt, va_recv (hK.sub (tys' := [(c 21, .long), (c 22, .int), (c 23, .int), (c 24, .int), (c 25, .int), (c 26, .int), (c 27, .int), (c 28, .int)]) [0, 1, 2, 3, 4, 5, 6, 7] rfl) (hP.sub (ws' := wD h c u_35) [0, 1, 2, 3, 4, 5, 6, 7, 8] rfl) (ci := 6) (q0 := 0) rfl rfl, zw_go (hP.sub (ws' := wD h c u_35) [0, 1, 2, 3, 4, 5, 6, 7, 8] rfl) (hD.sub (ws' := wD h c u_35) [0, 1, 2, 3, 4, 5, 6, 7, 8] (by decide) rfl) (hK.sub (tys' := [(c 21, .long), (c 22, .int), (c 23, .int), (c 24, .int), (c 25, .int), (c 26, .int), (c 27, .int), (c 28, .int)]) [0, 1, 2, 3, 4, 5, 6, 7] rfl) (fun _ _ _ => trivial)⟩ rfl rfl hl.1 rfl (lv_room (Nat.le_of_ble_eq_true rfl)) d_D_memoryWord_214 ⟨Nat.le_of_ble_eq_true rfl, Nat.le_of_ble_eq_true rfl⟩) hP hD hS hA [0, 1, 2, 3, 4, 5, 6, 7, 8] [] [0, 1, 2, 3, 4, 5, 6, 7, 8] rfl rfl (by decide) (by decide) (by decide) (fun _ => rfl) (fun r_41 _ H locs hw hP hD hS => ?_)
    have er_41 := hw
    refine lv_istore (lv' := [(8, .int r_41), (7, .int r_40), (0, .ref (h 20)), (1, .int p0), (2, .int p1), (3, .int p2), (4, .int x_1), (5, .int x_8), (6, .int x_12)]) hx hb d_D_memoryWord_217 hl (by decide) rfl (fun ls hl => ?_)
    refine lv_iload_n hx hb d_D_memoryWord_219 rfl (lv_at hl 4 rfl) ?_
    by_cases c_43 : p1 = (3 : Int32)
    · refine lv_tableIn (tgt := 288) hx hb d_D_memoryWord_220 (by rw [c_43]; decide) (by rw [c_43]; decide) (by rw [c_43]; rfl) (by decide) ?_
      refine lv_aload_n hx hb d_D_memoryWord_288 rfl (lv_at hl 2 rfl) ?_
      refine lv_iload_n hx hb d_D_memoryWord_289 rfl (lv_at hl 5 rfl) ?_
      refine lv_iconst (v := (4 : Int32)) hx hb d_D_memoryWord_290 (by decide) ?_
      refine lv_iadd hx hb d_D_memoryWord_291 ?_
      refine lv_iconst (v := (4 : Int32)) hx hb d_D_memoryWord_292 (by decide) ?_
      refine zc_i (w2 := fun _ => wD h c u_35) (va_runV (As := [.int (p2 + (4 : Int32)), .int (4 : Int32)]) (rest := []) ⟨hx, hb, hml, hown, ht⟩ (mt_D_take l D h c H.size u_35 (p2 + (4 : Int32)) (4 : Int32) (mw_p44 (mw_8 (mw_all ex_8 ex_12 ex_21 eu_26 eu_30 er_31 ex_32 eu_35 c_36) ex_8 (Or.inl c_43)))) (cwV 2 ht (zgV zw_968 zw_970 zs_54 zw_7 zw_971) rfl rfl rfl kd_D_take ⟨Nat.le_of_ble_eq_true rfl, Nat.le_of_ble_eq_true rfl⟩) ⟨zw_blind zw_tt, va_recv (hK.sub (tys' := [(c 21, .long), (c 22, .int), (c 23, .int), (c 24, .int), (c 25, .int), (c 26, .int), (c 27, .int), (c 28, .int)]) [0, 1, 2, 3, 4, 5, 6, 7] rfl) (hP.sub (ws' := wD h c u_35) [0, 1, 2, 3, 4, 5, 6, 7, 8] rfl) (ci := 6) (q0 := 0) rfl rfl, zw_go (hP.sub (ws' := wD h c u_35) [0, 1, 2, 3, 4, 5, 6, 7, 8] rfl) (hD.sub (ws' := wD h c u_35) [0, 1, 2, 3, 4, 5, 6, 7, 8] (by decide) rfl) (hK.sub (tys' := [(c 21, .long), (c 22, .int), (c 23, .int), (c 24, .int), (c 25, .int), (c 26, .int), (c 27, .int), (c 28, .int)]) [0, 1, 2, 3, 4, 5, 6, 7] rfl) (fun _ _ _ => trivial)⟩ rfl rfl hl.1 rfl (lv_room (Nat.le_of_ble_eq_true rfl)) d_D_memoryWord_293 ⟨Nat.le_of_ble_eq_true rfl, Nat.le_of_ble_eq_true rfl⟩) hP hD hS hA [0, 1, 2, 3, 4, 5, 6, 7, 8] [] [0, 1, 2, 3, 4, 5, 6, 7, 8] rfl rfl (by decide) (by decide) (by decide) (fun _ => rfl) (fun r_44 _ H locs hw hP hD hS => ?_)
      have er_44 := hw
      refine lv_istore (lv' := [(9, .int r_44), (8, .int r_41), (7, .int r_40), (0, .ref (h 20)), (1, .int p0), (2, .int p1), (3, .int p2), (4, .int x_1), (5, .int x_8), (6, .int x_12)]) hx hb d_D_memoryWord_296 hl (by decide) rfl (fun ls hl => ?_)
      refine lv_aload_n hx hb d_D_memoryWord_298 rfl (lv_at hl 3 rfl) ?_
      refine lv_iload_n hx hb d_D_memoryWord_299 rfl (lv_at hl 4 rfl) ?_
      refine lv_aload_n hx hb d_D_memoryWord_300 rfl (lv_at hl 3 rfl) ?_
      refine va_get (D := D) (ci := 6) (v := .int (u_35.1 6)) (C := "WindowMachineModel") (T := T_D) (N := 31) hx hb ht zi_D hown hK hP 0 rfl rfl 14 (by decide) (ht _ zw_868) (fun _ h9 => h9) rfl d_D_memoryWord_301 ?_
      refine lv_iload hx hb d_D_memoryWord_304 (lv_at hl 2 rfl) ?_
      refine zc_v (w2 := fun u9 => wD h c u9) (va_runV (As := [.int p0, .int (u_35.1 6), .int r_40]) (rest := []) ⟨hx, hb, hml, hown, ht⟩ (mt_D_gives l D h c H.size u_35 p0 (u_35.1 6) r_40 hr9 (ok_35).1) (cwV 3 ht (zgV zw_990 zw_992 zs_57 zw_7 zw_993) rfl rfl rfl kd_D_gives ⟨Nat.le_of_ble_eq_true rfl, Nat.le_of_ble_eq_true rfl⟩) ⟨zw_blind zw_tt, va_recv (hK.sub (tys' := [(c 21, .long), (c 22, .int), (c 23, .int), (c 24, .int), (c 25, .int), (c 26, .int), (c 27, .int), (c 28, .int)]) [0, 1, 2, 3, 4, 5, 6, 7] rfl) (hP.sub (ws' := wD h c u_35) [0, 1, 2, 3, 4, 5, 6, 7, 8] rfl) (ci := 6) (q0 := 0) rfl rfl, zw_go (hP.sub (ws' := wD h c u_35) [0, 1, 2, 3, 4, 5, 6, 7, 8] rfl) (hD.sub (ws' := wD h c u_35) [0, 1, 2, 3, 4, 5, 6, 7, 8] (by decide) rfl) (hK.sub (tys' := [(c 21, .long), (c 22, .int), (c 23, .int), (c 24, .int), (c 25, .int), (c 26, .int), (c 27, .int), (c 28, .int)]) [0, 1, 2, 3, 4, 5, 6, 7] rfl) (fun _ _ _ => trivial)⟩ rfl rfl hl.1 rfl (lv_room (Nat.le_of_ble_eq_true rfl)) d_D_memoryWord_306 ⟨Nat.le_of_ble_eq_true rfl, Nat.le_of_ble_eq_true rfl⟩) hP hD hS hA [0, 1, 2, 3, 4, 5, 6, 7, 8] [] [0, 1, 2, 3, 4, 5, 6, 7, 8] rfl rfl (by decide) (by decide) (by decide) (fun _ => rfl) (fun u_45 H locs hw hP hD hS => ?_)
      have eu_45 := hw
      have ok_45 : okV u_45 := by rw [eu_45]; exact (ov_gives ok_35)
      refine lv_aload_n hx hb d_D_memoryWord_309 rfl (lv_at hl 3 rfl) ?_
      refine lv_iload_n hx hb d_D_memoryWord_310 rfl (lv_at hl 4 rfl) ?_
      refine lv_iconst (v := (1 : Int32)) hx hb d_D_memoryWord_311 (by decide) ?_
      refine lv_iadd hx hb d_D_memoryWord_312 ?_
      refine lv_aload_n hx hb d_D_memoryWord_313 rfl (lv_at hl 3 rfl) ?_
      refine va_get (D := D) (ci := 6) (v := .int (u_45.1 6)) (C := "WindowMachineModel") (T := T_D) (N := 31) hx hb ht zi_D hown hK hP 0 rfl rfl 14 (by decide) (ht _ zw_868) (fun _ h9 => h9) rfl d_D_memoryWord_314 ?_
      refine lv_iload hx hb d_D_memoryWord_317 (lv_at hl 0 rfl) ?_
      refine zc_v (w2 := fun u9 => wD h c u9) (va_runV (As := [.int (p0 + (1 : Int32)), .int (u_45.1 6), .int r_44]) (rest := []) ⟨hx, hb, hml, hown, ht⟩ (mt_D_gives l D h c H.size u_45 (p0 + (1 : Int32)) (u_45.1 6) r_44 (rd_1 hr9 (mw_8 (mw_all ex_8 ex_12 ex_21 eu_26 eu_30 er_31 ex_32 eu_35 c_36) ex_8 (Or.inl c_43)).2.2) (ok_45).1) (cwV 3 ht (zgV zw_990 zw_992 zs_57 zw_7 zw_993) rfl rfl rfl kd_D_gives ⟨Nat.le_of_ble_eq_true rfl, Nat.le_of_ble_eq_true rfl⟩) ⟨zw_blind zw_tt, va_recv (hK.sub (tys' := [(c 21, .long), (c 22, .int), (c 23, .int), (c 24, .int), (c 25, .int), (c 26, .int), (c 27, .int), (c 28, .int)]) [0, 1, 2, 3, 4, 5, 6, 7] rfl) (hP.sub (ws' := wD h c u_45) [0, 1, 2, 3, 4, 5, 6, 7, 8] rfl) (ci := 6) (q0 := 0) rfl rfl, zw_go (hP.sub (ws' := wD h c u_45) [0, 1, 2, 3, 4, 5, 6, 7, 8] rfl) (hD.sub (ws' := wD h c u_45) [0, 1, 2, 3, 4, 5, 6, 7, 8] (by decide) rfl) (hK.sub (tys' := [(c 21, .long), (c 22, .int), (c 23, .int), (c 24, .int), (c 25, .int), (c 26, .int), (c 27, .int), (c 28, .int)]) [0, 1, 2, 3, 4, 5, 6, 7] rfl) (fun _ _ _ => trivial)⟩ rfl rfl hl.1 rfl (lv_room (Nat.le_of_ble_eq_true rfl)) d_D_memoryWord_319 ⟨Nat.le_of_ble_eq_true rfl, Nat.le_of_ble_eq_true rfl⟩) hP hD hS hA [0, 1, 2, 3, 4, 5, 6, 7, 8] [] [0, 1, 2, 3, 4, 5, 6, 7, 8] rfl rfl (by decide) (by decide) (by decide) (fun _ => rfl) (fun u_46 H locs hw hP hD hS => ?_)
      have eu_46 := hw
      have ok_46 : okV u_46 := by rw [eu_46]; exact (ov_gives ok_45)
      refine lv_goto (tgt := 453) hx hb d_D_memoryWord_322 (by decide) ?_
      exact zl_v (u := u_46) hx hb hr hlocks hS hP hD (by simp only [m_memoryWord, ← ex_1, ← ex_8, ← ex_12, ← ex_21, ← eu_26, ← ex_27, ← eu_30, ← er_31, ← ex_32, ← eu_35, ← ex_37, ← er_40, ← er_41, ← er_44, ← eu_45, ← eu_46]; try simp only [if_pos c_36, if_pos c_43]) d_D_memoryWord_453
    by_cases c_47 : p1 = (4 : Int32)
    · refine lv_tableIn (tgt := 325) hx hb d_D_memoryWord_220 (by rw [c_47]; decide) (by rw [c_47]; decide) (by rw [c_47]; rfl) (by decide) ?_
      refine lv_aload_n hx hb d_D_memoryWord_325 rfl (lv_at hl 2 rfl) ?_
      refine lv_iload_n hx hb d_D_memoryWord_326 rfl (lv_at hl 5 rfl) ?_
      refine lv_iload hx hb d_D_memoryWord_327 (lv_at hl 8 rfl) ?_
      refine lv_iload hx hb d_D_memoryWord_329 (lv_at hl 0 rfl) ?_
      refine zc_v (w2 := fun u9 => wD h c u9) (va_runV (As := [.int p2, .int x_12, .int r_41]) (rest := []) ⟨hx, hb, hml, hown, ht⟩ (mt_D_store l D h c H.size u_35 p2 x_12 r_41 (mw_sz (mw_all ex_8 ex_12 ex_21 eu_26 eu_30 er_31 ex_32 eu_35 c_36))) (cwV 3 ht (zgV zw_972 zw_974 zs_55 zw_7 zw_975) rfl rfl rfl kd_D_store ⟨Nat.le_of_ble_eq_true rfl, Nat.le_of_ble_eq_true rfl⟩) ⟨zw_blind zw_tt, va_recv (hK.sub (tys' := [(c 21, .long), (c 22, .int), (c 23, .int), (c 24, .int), (c 25, .int), (c 26, .int), (c 27, .int), (c 28, .int)]) [0, 1, 2, 3, 4, 5, 6, 7] rfl) (hP.sub (ws' := wD h c u_35) [0, 1, 2, 3, 4, 5, 6, 7, 8] rfl) (ci := 6) (q0 := 0) rfl rfl, zw_go (hP.sub (ws' := wD h c u_35) [0, 1, 2, 3, 4, 5, 6, 7, 8] rfl) (hD.sub (ws' := wD h c u_35) [0, 1, 2, 3, 4, 5, 6, 7, 8] (by decide) rfl) (hK.sub (tys' := [(c 21, .long), (c 22, .int), (c 23, .int), (c 24, .int), (c 25, .int), (c 26, .int), (c 27, .int), (c 28, .int)]) [0, 1, 2, 3, 4, 5, 6, 7] rfl) (fun _ _ _ => trivial)⟩ rfl rfl hl.1 rfl (lv_room (Nat.le_of_ble_eq_true rfl)) d_D_memoryWord_331 ⟨Nat.le_of_ble_eq_true rfl, Nat.le_of_ble_eq_true rfl⟩) hP hD hS hA [0, 1, 2, 3, 4, 5, 6, 7, 8] [] [0, 1, 2, 3, 4, 5, 6, 7, 8] rfl rfl (by decide) (by decide) (by decide) (fun _ => rfl) (fun u_48 H locs hw hP hD hS => ?_)
      have eu_48 := hw
      have ok_48 : okV u_48 := by rw [eu_48]; exact (ov_store ok_35)
      refine lv_goto (tgt := 453) hx hb d_D_memoryWord_334 (by decide) ?_
      exact zl_v (u := u_48) hx hb hr hlocks hS hP hD (by simp only [m_memoryWord, ← ex_1, ← ex_8, ← ex_12, ← ex_21, ← eu_26, ← ex_27, ← eu_30, ← er_31, ← ex_32, ← eu_35, ← ex_37, ← er_40, ← er_41, ← eu_48]; try simp only [if_pos c_36, if_neg c_43, if_pos c_47]) d_D_memoryWord_453
    by_cases c_49 : p1 = (5 : Int32)
    · refine lv_tableIn (tgt := 325) hx hb d_D_memoryWord_220 (by rw [c_49]; decide) (by rw [c_49]; decide) (by rw [c_49]; rfl) (by decide) ?_
      refine lv_aload_n hx hb d_D_memoryWord_325 rfl (lv_at hl 2 rfl) ?_
      refine lv_iload_n hx hb d_D_memoryWord_326 rfl (lv_at hl 5 rfl) ?_
      refine lv_iload hx hb d_D_memoryWord_327 (lv_at hl 8 rfl) ?_
      refine lv_iload hx hb d_D_memoryWord_329 (lv_at hl 0 rfl) ?_
      refine zc_v (w2 := fun u9 => wD h c u9) (va_runV (As := [.int p2, .int x_12, .int r_41]) (rest := []) ⟨hx, hb, hml, hown, ht⟩ (mt_D_store l D h c H.size u_35 p2 x_12 r_41 (mw_sz (mw_all ex_8 ex_12 ex_21 eu_26 eu_30 er_31 ex_32 eu_35 c_36))) (cwV 3 ht (zgV zw_972 zw_974 zs_55 zw_7 zw_975) rfl rfl rfl kd_D_store ⟨Nat.le_of_ble_eq_true rfl, Nat.le_of_ble_eq_true rfl⟩) ⟨zw_blind zw_tt, va_recv (hK.sub (tys' := [(c 21, .long), (c 22, .int), (c 23, .int), (c 24, .int), (c 25, .int), (c 26, .int), (c 27, .int), (c 28, .int)]) [0, 1, 2, 3, 4, 5, 6, 7] rfl) (hP.sub (ws' := wD h c u_35) [0, 1, 2, 3, 4, 5, 6, 7, 8] rfl) (ci := 6) (q0 := 0) rfl rfl, zw_go (hP.sub (ws' := wD h c u_35) [0, 1, 2, 3, 4, 5, 6, 7, 8] rfl) (hD.sub (ws' := wD h c u_35) [0, 1, 2, 3, 4, 5, 6, 7, 8] (by decide) rfl) (hK.sub (tys' := [(c 21, .long), (c 22, .int), (c 23, .int), (c 24, .int), (c 25, .int), (c 26, .int), (c 27, .int), (c 28, .int)]) [0, 1, 2, 3, 4, 5, 6, 7] rfl) (fun _ _ _ => trivial)⟩ rfl rfl hl.1 rfl (lv_room (Nat.le_of_ble_eq_true rfl)) d_D_memoryWord_331 ⟨Nat.le_of_ble_eq_true rfl, Nat.le_of_ble_eq_true rfl⟩) hP hD hS hA [0, 1, 2, 3, 4, 5, 6, 7, 8] [] [0, 1, 2, 3, 4, 5, 6, 7, 8] rfl rfl (by decide) (by decide) (by decide) (fun _ => rfl) (fun u_50 H locs hw hP hD hS => ?_)
      have eu_50 := hw
      have ok_50 : okV u_50 := by rw [eu_50]; exact (ov_store ok_35)
      refine lv_goto (tgt := 453) hx hb d_D_memoryWord_334 (by decide) ?_
      exact zl_v (u := u_50) hx hb hr hlocks hS hP hD (by simp only [m_memoryWord, ← ex_1, ← ex_8, ← ex_12, ← ex_21, ← eu_26, ← ex_27, ← eu_30, ← er_31, ← ex_32, ← eu_35, ← ex_37, ← er_40, ← er_41, ← eu_50]; try simp only [if_pos c_36, if_neg c_43, if_neg c_47, if_pos c_49]) d_D_memoryWord_453
    by_cases c_51 : p1 = (6 : Int32)
    · refine lv_tableIn (tgt := 325) hx hb d_D_memoryWord_220 (by rw [c_51]; decide) (by rw [c_51]; decide) (by rw [c_51]; rfl) (by decide) ?_
      refine lv_aload_n hx hb d_D_memoryWord_325 rfl (lv_at hl 2 rfl) ?_
      refine lv_iload_n hx hb d_D_memoryWord_326 rfl (lv_at hl 5 rfl) ?_
      refine lv_iload hx hb d_D_memoryWord_327 (lv_at hl 8 rfl) ?_
      refine lv_iload hx hb d_D_memoryWord_329 (lv_at hl 0 rfl) ?_
      refine zc_v (w2 := fun u9 => wD h c u9) (va_runV (As := [.int p2, .int x_12, .int r_41]) (rest := []) ⟨hx, hb, hml, hown, ht⟩ (mt_D_store l D h c H.size u_35 p2 x_12 r_41 (mw_sz (mw_all ex_8 ex_12 ex_21 eu_26 eu_30 er_31 ex_32 eu_35 c_36))) (cwV 3 ht (zgV zw_972 zw_974 zs_55 zw_7 zw_975) rfl rfl rfl kd_D_store ⟨Nat.le_of_ble_eq_true rfl, Nat.le_of_ble_eq_true rfl⟩) ⟨zw_blind zw_tt, va_recv (hK.sub (tys' := [(c 21, .long), (c 22, .int), (c 23, .int), (c 24, .int), (c 25, .int), (c 26, .int), (c 27, .int), (c 28, .int)]) [0, 1, 2, 3, 4, 5, 6, 7] rfl) (hP.sub (ws' := wD h c u_35) [0, 1, 2, 3, 4, 5, 6, 7, 8] rfl) (ci := 6) (q0 := 0) rfl rfl, zw_go (hP.sub (ws' := wD h c u_35) [0, 1, 2, 3, 4, 5, 6, 7, 8] rfl) (hD.sub (ws' := wD h c u_35) [0, 1, 2, 3, 4, 5, 6, 7, 8] (by decide) rfl) (hK.sub (tys' := [(c 21, .long), (c 22, .int), (c 23, .int), (c 24, .int), (c 25, .int), (c 26, .int), (c 27, .int), (c 28, .int)]) [0, 1, 2, 3, 4, 5, 6, 7] rfl) (fun _ _ _ => trivial)⟩ rfl rfl hl.1 rfl (lv_room (Nat.le_of_ble_eq_true rfl)) d_D_memoryWord_331 ⟨Nat.le_of_ble_eq_true rfl, Nat.le_of_ble_eq_true rfl⟩) hP hD hS hA [0, 1, 2, 3, 4, 5, 6, 7, 8] [] [0, 1, 2, 3, 4, 5, 6, 7, 8] rfl rfl (by decide) (by decide) (by decide) (fun _ => rfl) (fun u_52 H locs hw hP hD hS => ?_)
      have eu_52 := hw
      have ok_52 : okV u_52 := by rw [eu_52]; exact (ov_store ok_35)
      refine lv_goto (tgt := 453) hx hb d_D_memoryWord_334 (by decide) ?_
      exact zl_v (u := u_52) hx hb hr hlocks hS hP hD (by simp only [m_memoryWord, ← ex_1, ← ex_8, ← ex_12, ← ex_21, ← eu_26, ← ex_27, ← eu_30, ← er_31, ← ex_32, ← eu_35, ← ex_37, ← er_40, ← er_41, ← eu_52]; try simp only [if_pos c_36, if_neg c_43, if_neg c_47, if_neg c_49, if_pos c_51]) d_D_memoryWord_453
    by_cases c_53 : p1 = (7 : Int32)
    · refine lv_tableIn (tgt := 337) hx hb d_D_memoryWord_220 (by rw [c_53]; decide) (by rw [c_53]; decide) (by rw [c_53]; rfl) (by decide) ?_
      refine lv_aload_n hx hb d_D_memoryWord_337 rfl (lv_at hl 2 rfl) ?_
      refine lv_iload_n hx hb d_D_memoryWord_338 rfl (lv_at hl 5 rfl) ?_
      refine lv_iconst (v := (4 : Int32)) hx hb d_D_memoryWord_339 (by decide) ?_
      refine lv_iload hx hb d_D_memoryWord_340 (lv_at hl 0 rfl) ?_
      refine zc_v (w2 := fun u9 => wD h c u9) (va_runV (As := [.int p2, .int (4 : Int32), .int r_41]) (rest := []) ⟨hx, hb, hml, hown, ht⟩ (mt_D_store l D h c H.size u_35 p2 (4 : Int32) r_41 (mw_p4 (mw_8 (mw_all ex_8 ex_12 ex_21 eu_26 eu_30 er_31 ex_32 eu_35 c_36) ex_8 (Or.inr c_53)))) (cwV 3 ht (zgV zw_972 zw_974 zs_55 zw_7 zw_975) rfl rfl rfl kd_D_store ⟨Nat.le_of_ble_eq_true rfl, Nat.le_of_ble_eq_true rfl⟩) ⟨zw_blind zw_tt, va_recv (hK.sub (tys' := [(c 21, .long), (c 22, .int), (c 23, .int), (c 24, .int), (c 25, .int), (c 26, .int), (c 27, .int), (c 28, .int)]) [0, 1, 2, 3, 4, 5, 6, 7] rfl) (hP.sub (ws' := wD h c u_35) [0, 1, 2, 3, 4, 5, 6, 7, 8] rfl) (ci := 6) (q0 := 0) rfl rfl, zw_go (hP.sub (ws' := wD h c u_35) [0, 1, 2, 3, 4, 5, 6, 7, 8] rfl) (hD.sub (ws' := wD h c u_35) [0, 1, 2, 3, 4, 5, 6, 7, 8] (by decide) rfl) (hK.sub (tys' := [(c 21, .long), (c 22, .int), (c 23, .int), (c 24, .int), (c 25, .int), (c 26, .int), (c 27, .int), (c 28, .int)]) [0, 1, 2, 3, 4, 5, 6, 7] rfl) (fun _ _ _ => trivial)⟩ rfl rfl hl.1 rfl (lv_room (Nat.le_of_ble_eq_true rfl)) d_D_memoryWord_342 ⟨Nat.le_of_ble_eq_true rfl, Nat.le_of_ble_eq_true rfl⟩) hP hD hS hA [0, 1, 2, 3, 4, 5, 6, 7, 8] [] [0, 1, 2, 3, 4, 5, 6, 7, 8] rfl rfl (by decide) (by decide) (by decide) (fun _ => rfl) (fun u_54 H locs hw hP hD hS => ?_)
      have eu_54 := hw
      have ok_54 : okV u_54 := by rw [eu_54]; exact (ov_store ok_35)
      refine lv_aload_n hx hb d_D_memoryWord_345 rfl (lv_at hl 2 rfl) ?_
      refine lv_iload_n hx hb d_D_memoryWord_346 rfl (lv_at hl 5 rfl) ?_
      refine lv_iconst (v := (4 : Int32)) hx hb d_D_memoryWord_347 (by decide) ?_
      refine lv_iadd hx hb d_D_memoryWord_348 ?_
      refine lv_iconst (v := (4 : Int32)) hx hb d_D_memoryWord_349 (by decide) ?_
      refine lv_aload_n hx hb d_D_memoryWord_350 rfl (lv_at hl 2 rfl) ?_
      refine lv_iload_n hx hb d_D_memoryWord_351 rfl (lv_at hl 3 rfl) ?_
      refine lv_iconst (v := (1 : Int32)) hx hb d_D_memoryWord_352 (by decide) ?_
      refine lv_iadd hx hb d_D_memoryWord_353 ?_
      refine lv_aload_n hx hb d_D_memoryWord_354 rfl (lv_at hl 2 rfl) ?_
      refine va_get (D := D) (ci := 6) (v := .int (u_54.1 6)) (C := "WindowMachineModel") (T := T_D) (N := 31) hx hb ht zi_D hown hK hP 0 rfl rfl 14 (by decide) (ht _ zw_868) (fun _ h9 => h9) rfl d_D_memoryWord_355 ?_
      refine zc_i (w2 := fun _ => wD h c u_54) (va_runV (As := [.int (p0 + (1 : Int32)), .int (u_54.1 6)]) (rest := [.int (4 : Int32), .int (p2 + (4 : Int32)), .ref (h 20)]) ⟨hx, hb, hml, hown, ht⟩ (mt_D_get l D h c H.size u_54 (p0 + (1 : Int32)) (u_54.1 6) (rd_1 hr9 (mw_8 (mw_all ex_8 ex_12 ex_21 eu_26 eu_30 er_31 ex_32 eu_35 c_36) ex_8 (Or.inr c_53)).2.2) (ok_54).1) (cwV 2 ht (zgV zw_986 zw_988 zs_56 zw_7 zw_989) rfl rfl rfl kd_D_get ⟨Nat.le_of_ble_eq_true rfl, Nat.le_of_ble_eq_true rfl⟩) ⟨zw_blind zw_tt, va_recv (hK.sub (tys' := [(c 21, .long), (c 22, .int), (c 23, .int), (c 24, .int), (c 25, .int), (c 26, .int), (c 27, .int), (c 28, .int)]) [0, 1, 2, 3, 4, 5, 6, 7] rfl) (hP.sub (ws' := wD h c u_54) [0, 1, 2, 3, 4, 5, 6, 7, 8] rfl) (ci := 6) (q0 := 0) rfl rfl, zw_go (hP.sub (ws' := wD h c u_54) [0, 1, 2, 3, 4, 5, 6, 7, 8] rfl) (hD.sub (ws' := wD h c u_54) [0, 1, 2, 3, 4, 5, 6, 7, 8] (by decide) rfl) (hK.sub (tys' := [(c 21, .long), (c 22, .int), (c 23, .int), (c 24, .int), (c 25, .int), (c 26, .int), (c 27, .int), (c 28, .int)]) [0, 1, 2, 3, 4, 5, 6, 7] rfl) (fun _ _ _ => trivial)⟩ rfl rfl hl.1 rfl (lv_room (Nat.le_of_ble_eq_true rfl)) d_D_memoryWord_358 ⟨Nat.le_of_ble_eq_true rfl, Nat.le_of_ble_eq_true rfl⟩) hP hD hS hA [0, 1, 2, 3, 4, 5, 6, 7, 8] [] [0, 1, 2, 3, 4, 5, 6, 7, 8] rfl rfl (by decide) (by decide) (by decide) (fun _ => rfl) (fun r_55 _ H locs hw hP hD hS => ?_)
      have er_55 := hw
      refine zc_v (w2 := fun u9 => wD h c u9) (va_runV (As := [.int (p2 + (4 : Int32)), .int (4 : Int32), .int r_55]) (rest := []) ⟨hx, hb, hml, hown, ht⟩ (mt_D_store l D h c H.size u_54 (p2 + (4 : Int32)) (4 : Int32) r_55 (mw_p44 (mw_8 (mw_all ex_8 ex_12 ex_21 eu_26 eu_30 er_31 ex_32 eu_35 c_36) ex_8 (Or.inr c_53)))) (cwV 3 ht (zgV zw_972 zw_974 zs_55 zw_7 zw_975) rfl rfl rfl kd_D_store ⟨Nat.le_of_ble_eq_true rfl, Nat.le_of_ble_eq_true rfl⟩) ⟨zw_blind zw_tt, va_recv (hK.sub (tys' := [(c 21, .long), (c 22, .int), (c 23, .int), (c 24, .int), (c 25, .int), (c 26, .int), (c 27, .int), (c 28, .int)]) [0, 1, 2, 3, 4, 5, 6, 7] rfl) (hP.sub (ws' := wD h c u_54) [0, 1, 2, 3, 4, 5, 6, 7, 8] rfl) (ci := 6) (q0 := 0) rfl rfl, zw_go (hP.sub (ws' := wD h c u_54) [0, 1, 2, 3, 4, 5, 6, 7, 8] rfl) (hD.sub (ws' := wD h c u_54) [0, 1, 2, 3, 4, 5, 6, 7, 8] (by decide) rfl) (hK.sub (tys' := [(c 21, .long), (c 22, .int), (c 23, .int), (c 24, .int), (c 25, .int), (c 26, .int), (c 27, .int), (c 28, .int)]) [0, 1, 2, 3, 4, 5, 6, 7] rfl) (fun _ _ _ => trivial)⟩ rfl rfl hl.1 rfl (lv_room (Nat.le_of_ble_eq_true rfl)) d_D_memoryWord_361 ⟨Nat.le_of_ble_eq_true rfl, Nat.le_of_ble_eq_true rfl⟩) hP hD hS hA [0, 1, 2, 3, 4, 5, 6, 7, 8] [] [0, 1, 2, 3, 4, 5, 6, 7, 8] rfl rfl (by decide) (by decide) (by decide) (fun _ => rfl) (fun u_56 H locs hw hP hD hS => ?_)
      have eu_56 := hw
      have ok_56 : okV u_56 := by rw [eu_56]; exact (ov_store ok_54)
      refine lv_goto (tgt := 453) hx hb d_D_memoryWord_364 (by decide) ?_
      exact zl_v (u := u_56) hx hb hr hlocks hS hP hD (by simp only [m_memoryWord, ← ex_1, ← ex_8, ← ex_12, ← ex_21, ← eu_26, ← ex_27, ← eu_30, ← er_31, ← ex_32, ← eu_35, ← ex_37, ← er_40, ← er_41, ← eu_54, ← er_55, ← eu_56]; try simp only [if_pos c_36, if_neg c_43, if_neg c_47, if_neg c_49, if_neg c_51, if_pos c_53]) d_D_memoryWord_453
    by_cases c_57 : p1 = (9 : Int32)
    · refine lv_tableIn (tgt := 367) hx hb d_D_memoryWord_220 (by rw [c_57]; decide) (by rw [c_57]; decide) (by rw [c_57]; rfl) (by decide) ?_
      refine lv_aload_n hx hb d_D_memoryWord_367 rfl (lv_at hl 2 rfl) ?_
      refine lv_iload_n hx hb d_D_memoryWord_368 rfl (lv_at hl 3 rfl) ?_
      refine lv_aload_n hx hb d_D_memoryWord_369 rfl (lv_at hl 2 rfl) ?_
      refine va_get (D := D) (ci := 6) (v := .int (u_35.1 6)) (C := "WindowMachineModel") (T := T_D) (N := 31) hx hb ht zi_D hown hK hP 0 rfl rfl 14 (by decide) (ht _ zw_868) (fun _ h9 => h9) rfl d_D_memoryWord_370 ?_
      refine lv_iload hx hb d_D_memoryWord_373 (lv_at hl 1 rfl) ?_
      refine lv_i2b (v := zbyte r_40) hx hb d_D_memoryWord_375 rfl ?_
      refine zc_v (w2 := fun u9 => wD h c u9) (va_runV (As := [.int p0, .int (u_35.1 6), .int (zbyte r_40)]) (rest := []) ⟨hx, hb, hml, hown, ht⟩ (mt_D_gives l D h c H.size u_35 p0 (u_35.1 6) (zbyte r_40) hr9 (ok_35).1) (cwV 3 ht (zgV zw_990 zw_992 zs_57 zw_7 zw_993) rfl rfl rfl kd_D_gives ⟨Nat.le_of_ble_eq_true rfl, Nat.le_of_ble_eq_true rfl⟩) ⟨zw_blind zw_tt, va_recv (hK.sub (tys' := [(c 21, .long), (c 22, .int), (c 23, .int), (c 24, .int), (c 25, .int), (c 26, .int), (c 27, .int), (c 28, .int)]) [0, 1, 2, 3, 4, 5, 6, 7] rfl) (hP.sub (ws' := wD h c u_35) [0, 1, 2, 3, 4, 5, 6, 7, 8] rfl) (ci := 6) (q0 := 0) rfl rfl, zw_go (hP.sub (ws' := wD h c u_35) [0, 1, 2, 3, 4, 5, 6, 7, 8] rfl) (hD.sub (ws' := wD h c u_35) [0, 1, 2, 3, 4, 5, 6, 7, 8] (by decide) rfl) (hK.sub (tys' := [(c 21, .long), (c 22, .int), (c 23, .int), (c 24, .int), (c 25, .int), (c 26, .int), (c 27, .int), (c 28, .int)]) [0, 1, 2, 3, 4, 5, 6, 7] rfl) (fun _ _ _ => trivial)⟩ rfl rfl hl.1 rfl (lv_room (Nat.le_of_ble_eq_true rfl)) d_D_memoryWord_376 ⟨Nat.le_of_ble_eq_true rfl, Nat.le_of_ble_eq_true rfl⟩) hP hD hS hA [0, 1, 2, 3, 4, 5, 6, 7, 8] [] [0, 1, 2, 3, 4, 5, 6, 7, 8] rfl rfl (by decide) (by decide) (by decide) (fun _ => rfl) (fun u_58 H locs hw hP hD hS => ?_)
      have eu_58 := hw
      have ok_58 : okV u_58 := by rw [eu_58]; exact (ov_gives ok_35)
      refine lv_goto (tgt := 453) hx hb d_D_memoryWord_379 (by decide) ?_
      exact zl_v (u := u_58) hx hb hr hlocks hS hP hD (by simp only [m_memoryWord, ← ex_1, ← ex_8, ← ex_12, ← ex_21, ← eu_26, ← ex_27, ← eu_30, ← er_31, ← ex_32, ← eu_35, ← ex_37, ← er_40, ← er_41, ← eu_58]; try simp only [if_pos c_36, if_neg c_43, if_neg c_47, if_neg c_49, if_neg c_51, if_neg c_53, if_pos c_57]) d_D_memoryWord_453
    by_cases c_59 : p1 = (10 : Int32)
    · refine lv_tableIn (tgt := 382) hx hb d_D_memoryWord_220 (by rw [c_59]; decide) (by rw [c_59]; decide) (by rw [c_59]; rfl) (by decide) ?_
      refine lv_aload_n hx hb d_D_memoryWord_382 rfl (lv_at hl 2 rfl) ?_
      refine lv_iload_n hx hb d_D_memoryWord_383 rfl (lv_at hl 3 rfl) ?_
      refine lv_aload_n hx hb d_D_memoryWord_384 rfl (lv_at hl 2 rfl) ?_
      refine va_get (D := D) (ci := 6) (v := .int (u_35.1 6)) (C := "WindowMachineModel") (T := T_D) (N := 31) hx hb ht zi_D hown hK hP 0 rfl rfl 14 (by decide) (ht _ zw_868) (fun _ h9 => h9) rfl d_D_memoryWord_385 ?_
      refine lv_iload hx hb d_D_memoryWord_388 (lv_at hl 1 rfl) ?_
      refine lv_i2s (v := zshort r_40) hx hb d_D_memoryWord_390 rfl ?_
      refine zc_v (w2 := fun u9 => wD h c u9) (va_runV (As := [.int p0, .int (u_35.1 6), .int (zshort r_40)]) (rest := []) ⟨hx, hb, hml, hown, ht⟩ (mt_D_gives l D h c H.size u_35 p0 (u_35.1 6) (zshort r_40) hr9 (ok_35).1) (cwV 3 ht (zgV zw_990 zw_992 zs_57 zw_7 zw_993) rfl rfl rfl kd_D_gives ⟨Nat.le_of_ble_eq_true rfl, Nat.le_of_ble_eq_true rfl⟩) ⟨zw_blind zw_tt, va_recv (hK.sub (tys' := [(c 21, .long), (c 22, .int), (c 23, .int), (c 24, .int), (c 25, .int), (c 26, .int), (c 27, .int), (c 28, .int)]) [0, 1, 2, 3, 4, 5, 6, 7] rfl) (hP.sub (ws' := wD h c u_35) [0, 1, 2, 3, 4, 5, 6, 7, 8] rfl) (ci := 6) (q0 := 0) rfl rfl, zw_go (hP.sub (ws' := wD h c u_35) [0, 1, 2, 3, 4, 5, 6, 7, 8] rfl) (hD.sub (ws' := wD h c u_35) [0, 1, 2, 3, 4, 5, 6, 7, 8] (by decide) rfl) (hK.sub (tys' := [(c 21, .long), (c 22, .int), (c 23, .int), (c 24, .int), (c 25, .int), (c 26, .int), (c 27, .int), (c 28, .int)]) [0, 1, 2, 3, 4, 5, 6, 7] rfl) (fun _ _ _ => trivial)⟩ rfl rfl hl.1 rfl (lv_room (Nat.le_of_ble_eq_true rfl)) d_D_memoryWord_391 ⟨Nat.le_of_ble_eq_true rfl, Nat.le_of_ble_eq_true rfl⟩) hP hD hS hA [0, 1, 2, 3, 4, 5, 6, 7, 8] [] [0, 1, 2, 3, 4, 5, 6, 7, 8] rfl rfl (by decide) (by decide) (by decide) (fun _ => rfl) (fun u_60 H locs hw hP hD hS => ?_)
      have eu_60 := hw
      have ok_60 : okV u_60 := by rw [eu_60]; exact (ov_gives ok_35)
      refine lv_goto (tgt := 453) hx hb d_D_memoryWord_394 (by decide) ?_
      exact zl_v (u := u_60) hx hb hr hlocks hS hP hD (by simp only [m_memoryWord, ← ex_1, ← ex_8, ← ex_12, ← ex_21, ← eu_26, ← ex_27, ← eu_30, ← er_31, ← ex_32, ← eu_35, ← ex_37, ← er_40, ← er_41, ← eu_60]; try simp only [if_pos c_36, if_neg c_43, if_neg c_47, if_neg c_49, if_neg c_51, if_neg c_53, if_neg c_57, if_pos c_59]) d_D_memoryWord_453
    by_cases c_61 : p1 = (13 : Int32)
    · refine lv_tableIn (tgt := 397) hx hb d_D_memoryWord_220 (by rw [c_61]; decide) (by rw [c_61]; decide) (by rw [c_61]; rfl) (by decide) ?_
      refine lv_aload_n hx hb d_D_memoryWord_397 rfl (lv_at hl 2 rfl) ?_
      refine lv_iload_n hx hb d_D_memoryWord_398 rfl (lv_at hl 5 rfl) ?_
      refine lv_iconst (v := (1 : Int32)) hx hb d_D_memoryWord_399 (by decide) ?_
      refine lv_sipush (v := (255 : Int32)) hx hb d_D_memoryWord_400 (by decide) ?_
      refine zc_v (w2 := fun u9 => wD h c u9) (va_runV (As := [.int p2, .int (1 : Int32), .int (255 : Int32)]) (rest := []) ⟨hx, hb, hml, hown, ht⟩ (mt_D_store l D h c H.size u_35 p2 (1 : Int32) (255 : Int32) (mw_1 (mw_all ex_8 ex_12 ex_21 eu_26 eu_30 er_31 ex_32 eu_35 c_36))) (cwV 3 ht (zgV zw_972 zw_974 zs_55 zw_7 zw_975) rfl rfl rfl kd_D_store ⟨Nat.le_of_ble_eq_true rfl, Nat.le_of_ble_eq_true rfl⟩) ⟨zw_blind zw_tt, va_recv (hK.sub (tys' := [(c 21, .long), (c 22, .int), (c 23, .int), (c 24, .int), (c 25, .int), (c 26, .int), (c 27, .int), (c 28, .int)]) [0, 1, 2, 3, 4, 5, 6, 7] rfl) (hP.sub (ws' := wD h c u_35) [0, 1, 2, 3, 4, 5, 6, 7, 8] rfl) (ci := 6) (q0 := 0) rfl rfl, zw_go (hP.sub (ws' := wD h c u_35) [0, 1, 2, 3, 4, 5, 6, 7, 8] rfl) (hD.sub (ws' := wD h c u_35) [0, 1, 2, 3, 4, 5, 6, 7, 8] (by decide) rfl) (hK.sub (tys' := [(c 21, .long), (c 22, .int), (c 23, .int), (c 24, .int), (c 25, .int), (c 26, .int), (c 27, .int), (c 28, .int)]) [0, 1, 2, 3, 4, 5, 6, 7] rfl) (fun _ _ _ => trivial)⟩ rfl rfl hl.1 rfl (lv_room (Nat.le_of_ble_eq_true rfl)) d_D_memoryWord_403 ⟨Nat.le_of_ble_eq_true rfl, Nat.le_of_ble_eq_true rfl⟩) hP hD hS hA [0, 1, 2, 3, 4, 5, 6, 7, 8] [] [0, 1, 2, 3, 4, 5, 6, 7, 8] rfl rfl (by decide) (by decide) (by decide) (fun _ => rfl) (fun u_62 H locs hw hP hD hS => ?_)
      have eu_62 := hw
      have ok_62 : okV u_62 := by rw [eu_62]; exact (ov_store ok_35)
      refine lv_aload_n hx hb d_D_memoryWord_406 rfl (lv_at hl 2 rfl) ?_
      refine lv_iload_n hx hb d_D_memoryWord_407 rfl (lv_at hl 3 rfl) ?_
      refine lv_aload_n hx hb d_D_memoryWord_408 rfl (lv_at hl 2 rfl) ?_
      refine va_get (D := D) (ci := 6) (v := .int (u_62.1 6)) (C := "WindowMachineModel") (T := T_D) (N := 31) hx hb ht zi_D hown hK hP 0 rfl rfl 14 (by decide) (ht _ zw_868) (fun _ h9 => h9) rfl d_D_memoryWord_409 ?_
      refine lv_iload hx hb d_D_memoryWord_412 (lv_at hl 1 rfl) ?_
      refine zc_v (w2 := fun u9 => wD h c u9) (va_runV (As := [.int p0, .int (u_62.1 6), .int r_40]) (rest := []) ⟨hx, hb, hml, hown, ht⟩ (mt_D_gives l D h c H.size u_62 p0 (u_62.1 6) r_40 hr9 (ok_62).1) (cwV 3 ht (zgV zw_990 zw_992 zs_57 zw_7 zw_993) rfl rfl rfl kd_D_gives ⟨Nat.le_of_ble_eq_true rfl, Nat.le_of_ble_eq_true rfl⟩) ⟨zw_blind zw_tt, va_recv (hK.sub (tys' := [(c 21, .long), (c 22, .int), (c 23, .int), (c 24, .int), (c 25, .int), (c 26, .int), (c 27, .int), (c 28, .int)]) [0, 1, 2, 3, 4, 5, 6, 7] rfl) (hP.sub (ws' := wD h c u_62) [0, 1, 2, 3, 4, 5, 6, 7, 8] rfl) (ci := 6) (q0 := 0) rfl rfl, zw_go (hP.sub (ws' := wD h c u_62) [0, 1, 2, 3, 4, 5, 6, 7, 8] rfl) (hD.sub (ws' := wD h c u_62) [0, 1, 2, 3, 4, 5, 6, 7, 8] (by decide) rfl) (hK.sub (tys' := [(c 21, .long), (c 22, .int), (c 23, .int), (c 24, .int), (c 25, .int), (c 26, .int), (c 27, .int), (c 28, .int)]) [0, 1, 2, 3, 4, 5, 6, 7] rfl) (fun _ _ _ => trivial)⟩ rfl rfl hl.1 rfl (lv_room (Nat.le_of_ble_eq_true rfl)) d_D_memoryWord_414 ⟨Nat.le_of_ble_eq_true rfl, Nat.le_of_ble_eq_true rfl⟩) hP hD hS hA [0, 1, 2, 3, 4, 5, 6, 7, 8] [] [0, 1, 2, 3, 4, 5, 6, 7, 8] rfl rfl (by decide) (by decide) (by decide) (fun _ => rfl) (fun u_63 H locs hw hP hD hS => ?_)
      have eu_63 := hw
      have ok_63 : okV u_63 := by rw [eu_63]; exact (ov_gives ok_62)
      refine lv_goto (tgt := 453) hx hb d_D_memoryWord_417 (by decide) ?_
      exact zl_v (u := u_63) hx hb hr hlocks hS hP hD (by simp only [m_memoryWord, ← ex_1, ← ex_8, ← ex_12, ← ex_21, ← eu_26, ← ex_27, ← eu_30, ← er_31, ← ex_32, ← eu_35, ← ex_37, ← er_40, ← er_41, ← eu_62, ← eu_63]; try simp only [if_pos c_36, if_neg c_43, if_neg c_47, if_neg c_49, if_neg c_51, if_neg c_53, if_neg c_57, if_neg c_59, if_pos c_61]) d_D_memoryWord_453
    by_cases c_64 : p1 = (15 : Int32)
    · refine lv_tableIn (tgt := 420) hx hb d_D_memoryWord_220 (by rw [c_64]; decide) (by rw [c_64]; decide) (by rw [c_64]; rfl) (by decide) ?_
      refine lv_aload_n hx hb d_D_memoryWord_420 rfl (lv_at hl 2 rfl) ?_
      refine lv_iload_n hx hb d_D_memoryWord_421 rfl (lv_at hl 5 rfl) ?_
      refine lv_iconst (v := (4 : Int32)) hx hb d_D_memoryWord_422 (by decide) ?_
      refine lv_iload hx hb d_D_memoryWord_423 (lv_at hl 0 rfl) ?_
      refine zc_v (w2 := fun u9 => wD h c u9) (va_runV (As := [.int p2, .int (4 : Int32), .int r_41]) (rest := []) ⟨hx, hb, hml, hown, ht⟩ (mt_D_store l D h c H.size u_35 p2 (4 : Int32) r_41 (mw_15 (mw_all ex_8 ex_12 ex_21 eu_26 eu_30 er_31 ex_32 eu_35 c_36) ex_12 c_64)) (cwV 3 ht (zgV zw_972 zw_974 zs_55 zw_7 zw_975) rfl rfl rfl kd_D_store ⟨Nat.le_of_ble_eq_true rfl, Nat.le_of_ble_eq_true rfl⟩) ⟨zw_blind zw_tt, va_recv (hK.sub (tys' := [(c 21, .long), (c 22, .int), (c 23, .int), (c 24, .int), (c 25, .int), (c 26, .int), (c 27, .int), (c 28, .int)]) [0, 1, 2, 3, 4, 5, 6, 7] rfl) (hP.sub (ws' := wD h c u_35) [0, 1, 2, 3, 4, 5, 6, 7, 8] rfl) (ci := 6) (q0 := 0) rfl rfl, zw_go (hP.sub (ws' := wD h c u_35) [0, 1, 2, 3, 4, 5, 6, 7, 8] rfl) (hD.sub (ws' := wD h c u_35) [0, 1, 2, 3, 4, 5, 6, 7, 8] (by decide) rfl) (hK.sub (tys' := [(c 21, .long), (c 22, .int), (c 23, .int), (c 24, .int), (c 25, .int), (c 26, .int), (c 27, .int), (c 28, .int)]) [0, 1, 2, 3, 4, 5, 6, 7] rfl) (fun _ _ _ => trivial)⟩ rfl rfl hl.1 rfl (lv_room (Nat.le_of_ble_eq_true rfl)) d_D_memoryWord_425 ⟨Nat.le_of_ble_eq_true rfl, Nat.le_of_ble_eq_true rfl⟩) hP hD hS hA [0, 1, 2, 3, 4, 5, 6, 7, 8] [] [0, 1, 2, 3, 4, 5, 6, 7, 8] rfl rfl (by decide) (by decide) (by decide) (fun _ => rfl) (fun u_65 H locs hw hP hD hS => ?_)
      have eu_65 := hw
      have ok_65 : okV u_65 := by rw [eu_65]; exact (ov_store ok_35)
      refine lv_aload_n hx hb d_D_memoryWord_428 rfl (lv_at hl 2 rfl) ?_
      refine lv_iload_n hx hb d_D_memoryWord_429 rfl (lv_at hl 3 rfl) ?_
      refine lv_aload_n hx hb d_D_memoryWord_430 rfl (lv_at hl 2 rfl) ?_
      refine va_get (D := D) (ci := 6) (v := .int (u_65.1 6)) (C := "WindowMachineModel") (T := T_D) (N := 31) hx hb ht zi_D hown hK hP 0 rfl rfl 14 (by decide) (ht _ zw_868) (fun _ h9 => h9) rfl d_D_memoryWord_431 ?_
      refine lv_iload hx hb d_D_memoryWord_434 (lv_at hl 1 rfl) ?_
      refine zc_v (w2 := fun u9 => wD h c u9) (va_runV (As := [.int p0, .int (u_65.1 6), .int r_40]) (rest := []) ⟨hx, hb, hml, hown, ht⟩ (mt_D_gives l D h c H.size u_65 p0 (u_65.1 6) r_40 hr9 (ok_65).1) (cwV 3 ht (zgV zw_990 zw_992 zs_57 zw_7 zw_993) rfl rfl rfl kd_D_gives ⟨Nat.le_of_ble_eq_true rfl, Nat.le_of_ble_eq_true rfl⟩) ⟨zw_blind zw_tt, va_recv (hK.sub (tys' := [(c 21, .long), (c 22, .int), (c 23, .int), (c 24, .int), (c 25, .int), (c 26, .int), (c 27, .int), (c 28, .int)]) [0, 1, 2, 3, 4, 5, 6, 7] rfl) (hP.sub (ws' := wD h c u_65) [0, 1, 2, 3, 4, 5, 6, 7, 8] rfl) (ci := 6) (q0 := 0) rfl rfl, zw_go (hP.sub (ws' := wD h c u_65) [0, 1, 2, 3, 4, 5, 6, 7, 8] rfl) (hD.sub (ws' := wD h c u_65) [0, 1, 2, 3, 4, 5, 6, 7, 8] (by decide) rfl) (hK.sub (tys' := [(c 21, .long), (c 22, .int), (c 23, .int), (c 24, .int), (c 25, .int), (c 26, .int), (c 27, .int), (c 28, .int)]) [0, 1, 2, 3, 4, 5, 6, 7] rfl) (fun _ _ _ => trivial)⟩ rfl rfl hl.1 rfl (lv_room (Nat.le_of_ble_eq_true rfl)) d_D_memoryWord_436 ⟨Nat.le_of_ble_eq_true rfl, Nat.le_of_ble_eq_true rfl⟩) hP hD hS hA [0, 1, 2, 3, 4, 5, 6, 7, 8] [] [0, 1, 2, 3, 4, 5, 6, 7, 8] rfl rfl (by decide) (by decide) (by decide) (fun _ => rfl) (fun u_66 H locs hw hP hD hS => ?_)
      have eu_66 := hw
      have ok_66 : okV u_66 := by rw [eu_66]; exact (ov_gives ok_65)
      refine lv_goto (tgt := 453) hx hb d_D_memoryWord_439 (by decide) ?_
      exact zl_v (u := u_66) hx hb hr hlocks hS hP hD (by simp only [m_memoryWord, ← ex_1, ← ex_8, ← ex_12, ← ex_21, ← eu_26, ← ex_27, ← eu_30, ← er_31, ← ex_32, ← eu_35, ← ex_37, ← er_40, ← er_41, ← eu_65, ← eu_66]; try simp only [if_pos c_36, if_neg c_43, if_neg c_47, if_neg c_49, if_neg c_51, if_neg c_53, if_neg c_57, if_neg c_59, if_neg c_61, if_pos c_64]) d_D_memoryWord_453
    refine zsame (g := F0 m 442 ls []) ?_ (fun hd_42 => ?_)
    · refine lv_aload_n hx hb d_D_memoryWord_442 rfl (lv_at hl 2 rfl) ?_
      refine lv_iload_n hx hb d_D_memoryWord_443 rfl (lv_at hl 3 rfl) ?_
      refine lv_aload_n hx hb d_D_memoryWord_444 rfl (lv_at hl 2 rfl) ?_
      refine va_get (D := D) (ci := 6) (v := .int (u_35.1 6)) (C := "WindowMachineModel") (T := T_D) (N := 31) hx hb ht zi_D hown hK hP 0 rfl rfl 14 (by decide) (ht _ zw_868) (fun _ h9 => h9) rfl d_D_memoryWord_445 ?_
      refine lv_iload hx hb d_D_memoryWord_448 (lv_at hl 1 rfl) ?_
      refine zc_v (w2 := fun u9 => wD h c u9) (va_runV (As := [.int p0, .int (u_35.1 6), .int r_40]) (rest := []) ⟨hx, hb, hml, hown, ht⟩ (mt_D_gives l D h c H.size u_35 p0 (u_35.1 6) r_40 hr9 (ok_35).1) (cwV 3 ht (zgV zw_990 zw_992 zs_57 zw_7 zw_993) rfl rfl rfl kd_D_gives ⟨Nat.le_of_ble_eq_true rfl, Nat.le_of_ble_eq_true rfl⟩) ⟨zw_blind zw_tt, va_recv (hK.sub (tys' := [(c 21, .long), (c 22, .int), (c 23, .int), (c 24, .int), (c 25, .int), (c 26, .int), (c 27, .int), (c 28, .int)]) [0, 1, 2, 3, 4, 5, 6, 7] rfl) (hP.sub (ws' := wD h c u_35) [0, 1, 2, 3, 4, 5, 6, 7, 8] rfl) (ci := 6) (q0 := 0) rfl rfl, zw_go (hP.sub (ws' := wD h c u_35) [0, 1, 2, 3, 4, 5, 6, 7, 8] rfl) (hD.sub (ws' := wD h c u_35) [0, 1, 2, 3, 4, 5, 6, 7, 8] (by decide) rfl) (hK.sub (tys' := [(c 21, .long), (c 22, .int), (c 23, .int), (c 24, .int), (c 25, .int), (c 26, .int), (c 27, .int), (c 28, .int)]) [0, 1, 2, 3, 4, 5, 6, 7] rfl) (fun _ _ _ => trivial)⟩ rfl rfl hl.1 rfl (lv_room (Nat.le_of_ble_eq_true rfl)) d_D_memoryWord_450 ⟨Nat.le_of_ble_eq_true rfl, Nat.le_of_ble_eq_true rfl⟩) hP hD hS hA [0, 1, 2, 3, 4, 5, 6, 7, 8] [] [0, 1, 2, 3, 4, 5, 6, 7, 8] rfl rfl (by decide) (by decide) (by decide) (fun _ => rfl) (fun u_67 H locs hw hP hD hS => ?_)
      have eu_67 := hw
      have ok_67 : okV u_67 := by rw [eu_67]; exact (ov_gives ok_35)
      exact zl_v (u := u_67) hx hb hr hlocks hS hP hD (by simp only [m_memoryWord, ← ex_1, ← ex_8, ← ex_12, ← ex_21, ← eu_26, ← ex_27, ← eu_30, ← er_31, ← ex_32, ← eu_35, ← ex_37, ← er_40, ← er_41, ← eu_67]; try simp only [if_pos c_36, if_neg c_43, if_neg c_47, if_neg c_49, if_neg c_51, if_neg c_53, if_neg c_57, if_neg c_59, if_neg c_61, if_neg c_64]) d_D_memoryWord_453
    by_cases c_68 : p1 = (8 : Int32)
    · exact lv_tableIn (tgt := 442) hx hb d_D_memoryWord_220 (by rw [c_68]; decide) (by rw [c_68]; decide) (by rw [c_68]; rfl) (by decide) hd_42
    by_cases c_69 : p1 = (11 : Int32)
    · exact lv_tableIn (tgt := 442) hx hb d_D_memoryWord_220 (by rw [c_69]; decide) (by rw [c_69]; decide) (by rw [c_69]; rfl) (by decide) hd_42
    by_cases c_70 : p1 = (12 : Int32)
    · exact lv_tableIn (tgt := 442) hx hb d_D_memoryWord_220 (by rw [c_70]; decide) (by rw [c_70]; decide) (by rw [c_70]; rfl) (by decide) hd_42
    by_cases c_71 : p1 = (14 : Int32)
    · exact lv_tableIn (tgt := 442) hx hb d_D_memoryWord_220 (by rw [c_71]; decide) (by rw [c_71]; decide) (by rw [c_71]; rfl) (by decide) hd_42
    exact lv_tableOut (tgt := 442) hx hb d_D_memoryWord_220 (by have := lv_neT c_43 (a := 3) (by decide); have := lv_neT c_47 (a := 4) (by decide); have := lv_neT c_49 (a := 5) (by decide); have := lv_neT c_51 (a := 6) (by decide); have := lv_neT c_53 (a := 7) (by decide); have := lv_neT c_68 (a := 8) (by decide); have := lv_neT c_57 (a := 9) (by decide); have := lv_neT c_59 (a := 10) (by decide); have := lv_neT c_69 (a := 11) (by decide); have := lv_neT c_70 (a := 12) (by decide); have := lv_neT c_61 (a := 13) (by decide); have := lv_neT c_71 (a := 14) (by decide); have := lv_neT c_64 (a := 15) (by decide); omega) (by decide) hd_42
  exact zl_v (u := u_35) hx hb hr hlocks hS hP hD (by simp only [m_memoryWord, ← ex_1, ← ex_8, ← ex_12, ← ex_21, ← eu_26, ← ex_27, ← eu_30, ← er_31, ← ex_32, ← eu_35]; try simp only [if_neg c_36]) d_D_memoryWord_189
