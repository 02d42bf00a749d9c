abbrev SD : Type := (Nat → Int32) × (Nat → Int32) × (Nat → Int32) × (Nat → Int32) × (Nat → Int32) × (Nat → Int32)
def nmL : List Int64 := [6579297, 426869285985, 6581857, 426869288545, 29295, 1667461743, 7499640, 426870206328, 6452595, 426869159283, 1852075617, 109278704987745, 7238255, 426869944943, 1919905400, 109278772817528, 2019845217, 109278872757345, 2019718515, 109278872630643, 1819635061, 109278672547189, 1819635059, 109278672547187, 1986618485, 109278839530613, 1986618483, 109278839530611, 109278789399917, 7105651, 7107187, 6386291, 1819307370, 1702257011, 28554795668432242, 452724024691, 7955570, 491563017330, 469920867442, 491278066802, 7959159, 491563020919, 469920871031, 491278070391, 1953785202, 1819042147, 28258, 28276, 25954, 25972, 6646882, 6646900, 27746, 27764, 1969581154, 1969581172, 7562082, 7562100, 1734700642, 1734700660, 7566946, 7566964, 24930, 24948, 6647394, 6647412, 26466, 26484, 6645602, 6645620, 7694178, 7694196, 6513506, 6513524, 1936683106, 1936683124, 6518370, 6518388, 25708, 1651860588, 1752523884, 6579308, 1651729516, 1752392812, 108256604415084, 1885435763, 29811, 6452339, 6845555, 6583411, 7368558]
def fmL : List Int32 := [0, 0, 0, 0, 0, 0, 0, 0, 0, 0, 0, 0, 0, 0, 0, 0, 0, 0, 0, 0, 0, 0, 0, 0, 0, 0, 0, 0, 0, 0, 0, 0, 0, 0, 0, 1, 2, 2, 2, 2, 3, 3, 3, 3, 3, 4, 5, 3, 5, 3, 5, 3, 5, 3, 5, 3, 5, 3, 5, 3, 5, 3, 5, 3, 5, 3, 5, 3, 5, 3, 5, 3, 5, 3, 5, 3, 5, 3, 0, 0, 0, 0, 0, 0, 0, 0, 6, 6, 6, 6, 7]
def cdL : List Int32 := [128, 144, 129, 145, 130, 146, 131, 147, 132, 148, 133, 149, 134, 150, 135, 151, 136, 152, 140, 156, 138, 154, 139, 155, 142, 158, 143, 159, 164, 165, 166, 167, 184, 188, 189, 0, 40, 41, 42, 43, 1536, 1568, 1600, 1632, 1824, 0, 0, 1856, 1, 1857, 2, 1858, 3, 1859, 4, 1860, 5, 1861, 6, 1862, 7, 1863, 8, 1864, 9, 1865, 10, 1866, 11, 1867, 12, 1868, 13, 1869, 14, 1870, 15, 1871, 192, 193, 194, 195, 201, 202, 205, 207, 196, 197, 198, 199, 0]
def nmT : Nat → Int64 := fun j => nmL.getD j 0
def fmT : Nat → Int32 := fun j => fmL.getD j 0
def cdT : Nat → Int32 := fun j => cdL.getD j 0
def wD (h : Nat → Nat) (c : Nat → ClassId) (st : SD) : va_W :=
  [(h 20, .inr (6, [.ref (h 21), .ref (h 22), .ref (h 23), .int (st.1 0), .int (st.1 1), .int (st.1 2), .int (st.1 3), .ref (h 24), .ref (h 25), .ref (h 26), .ref (h 27), .ref (h 28), .int (st.1 4), .int (st.1 5), .int (st.1 6), .int (st.1 7), .int (st.1 8), .int (st.1 9), .int (st.1 10), .int (st.1 11), .int (st.1 12), .int (st.1 13), .int (st.1 14), .int (st.1 15), .int (st.1 16), .int (st.1 17), .int (st.1 18), .int (st.1 19), .int (st.1 20), .int (st.1 21), .int (st.1 22)])),
   (h 21, .inl (c 21, 91, .inr (.inl nmT))), (h 22, .inl (c 22, 91, .inl fmT)), (h 23, .inl (c 23, 91, .inl cdT)), (h 24, .inl (c 24, 40, .inl st.2.1)), (h 25, .inl (c 25, 1024, .inl st.2.2.1)), (h 26, .inl (c 26, 8, .inl st.2.2.2.1)), (h 27, .inl (c 27, 32, .inl st.2.2.2.2.1)), (h 28, .inl (c 28, 32, .inl st.2.2.2.2.2))]
theorem g_gl {r : Int32} (hr : vp_in r 32) (c : ¬ (8 : Int32) ≤ r) : vp_in r 8 := by
  obtain ⟨j, hj, rfl⟩ := vp_in_of hr (by omega)
  exact vp_in_nI (znlt (N := 8) (by omega) c) (by omega)
theorem g_o1 {w r : Int32} (hr : vp_in r 32) (hw : vp_in w 4) (c1 : (8 : Int32) ≤ r) (c2 : ¬ (16 : Int32) ≤ r) : vp_in ((((8 : Int32) * w) + r) - (8 : Int32)) 32 := by
  obtain ⟨i, hi, rfl⟩ := vp_in_of hw (by omega)
  obtain ⟨j, hj, rfl⟩ := vp_in_of hr (by omega)
  have h : ∀ i : Fin 4, ∀ j : Fin 32, (8 : Int32) ≤ nI j → ¬ (16 : Int32) ≤ nI j → ¬ (((((8 : Int32) * nI i) + nI j) - (8 : Int32)) < 0 ∨ 32 ≤ ((((8 : Int32) * nI i) + nI j) - (8 : Int32)).toNatClampNeg) := by decide +kernel
  exact h ⟨i, hi⟩ ⟨j, hj⟩ c1 c2
theorem g_lo {w r : Int32} (hr : vp_in r 32) (hw : vp_in w 4) (c1 : (16 : Int32) ≤ r) (c2 : ¬ (24 : Int32) ≤ r) : vp_in ((((8 : Int32) * w) + r) - (16 : Int32)) 32 := by
  obtain ⟨i, hi, rfl⟩ := vp_in_of hw (by omega)
  obtain ⟨j, hj, rfl⟩ := vp_in_of hr (by omega)
  have h : ∀ i : Fin 4, ∀ j : Fin 32, (16 : Int32) ≤ nI j → ¬ (24 : Int32) ≤ nI j → ¬ (((((8 : Int32) * nI i) + nI j) - (16 : Int32)) < 0 ∨ 32 ≤ ((((8 : Int32) * nI i) + nI j) - (16 : Int32)).toNatClampNeg) := by decide +kernel
  exact h ⟨i, hi⟩ ⟨j, hj⟩ c1 c2
theorem g_o2 {w r : Int32} (hr : vp_in r 32) (hw : vp_in w 4) (c1 : (24 : Int32) ≤ r) : vp_in ((((8 : Int32) * ((w + (1 : Int32)) &&& (3 : Int32))) + r) - (24 : Int32)) 32 := by
  obtain ⟨i, hi, rfl⟩ := vp_in_of hw (by omega)
  obtain ⟨j, hj, rfl⟩ := vp_in_of hr (by omega)
  have h : ∀ i : Fin 4, ∀ j : Fin 32, (24 : Int32) ≤ nI j → ¬ (((((8 : Int32) * ((nI i + (1 : Int32)) &&& (3 : Int32))) + nI j) - (24 : Int32)) < 0 ∨ 32 ≤ ((((8 : Int32) * ((nI i + (1 : Int32)) &&& (3 : Int32))) + nI j) - (24 : Int32)).toNatClampNeg) := by decide +kernel
  exact h ⟨i, hi⟩ ⟨j, hj⟩ c1
/-- the window is one of the four; S and PS are truth values -/
def okV (st : SD) : Prop := vp_in (st.1 6) 4 ∧ zB (st.1 17) ∧ zB (st.1 18)
theorem okV_ite {c : Prop} {d : Decidable c} {a b : SD} (ha : okV a) (hb : okV b) : okV (@ite _ c d a b) := by
  by_cases h : c
  · rw [if_pos h]; exact ha
  · rw [if_neg h]; exact hb
theorem bx_in {x y : Int32} (h : x = y &&& (31 : Int32)) : vp_in x 32 := by rw [h]; exact a31_in y
theorem b3_in (y : Int32) : vp_in (y &&& (3 : Int32)) 4 := pk_andIn _ 2 (by decide) (by decide)
theorem atD_in {st : SD} (h : 0 ≤ (st.1 3).toInt ∧ (st.1 1).toInt ≤ 40) (c : ¬ (st.1 1) ≤ (st.1 3)) : vp_in (st.1 3) 40 := by
  have q := nle_toInt c
  exact vp_in_iff.mpr ⟨h.1, by omega⟩
theorem d_D_in_0 : decode c_D_in 0 = .ok (.lload_n 0, 1) := by decide +kernel
theorem d_D_in_1 : decode c_D_in 1 = .ok (.lload_n 2, 1) := by decide +kernel
theorem d_D_in_2 : decode c_D_in 2 = .ok (.lcmp, 1) := by decide +kernel
theorem d_D_in_3 : decode c_D_in 3 = .ok (.ifCond .lt 14, 3) := by decide +kernel
theorem d_D_in_6 : decode c_D_in 6 = .ok (.lload_n 0, 1) := by decide +kernel
theorem d_D_in_7 : decode c_D_in 7 = .ok (.lload 4, 2) := by decide +kernel
theorem d_D_in_9 : decode c_D_in 9 = .ok (.lcmp, 1) := by decide +kernel
theorem d_D_in_10 : decode c_D_in 10 = .ok (.ifCond .gt 7, 3) := by decide +kernel
theorem d_D_in_13 : decode c_D_in 13 = .ok (.iconst 1, 1) := by decide +kernel
theorem d_D_in_14 : decode c_D_in 14 = .ok (.goto 4, 3) := by decide +kernel
theorem d_D_in_17 : decode c_D_in 17 = .ok (.iconst 0, 1) := by decide +kernel
theorem d_D_in_18 : decode c_D_in 18 = .ok (.ireturn, 1) := by decide +kernel
theorem kd_D_in : (y_D_in).cls = "WindowMachineModel" ∧ (y_D_in).cls ≠ "java/lang/invoke/MethodHandle" ∧ (y_D_in).cls ≠ "java/lang/invoke/VarHandle" ∧ (parseMethodDescriptor (y_D_in).desc).map (fun d => d.parameters.length) = some 3 := by decide +kernel
def m_in (p0 : Int64) (p1 : Int64) (p2 : Int64) : Int32 := (let x_1 := (if (lg_cmp p0 p1) < (0 : Int32) then (0 : Int32) else (if (0 : Int32) < (lg_cmp p0 p2) then (0 : Int32) else (1 : Int32))); x_1)
set_option maxHeartbeats 4000000 in
set_option maxRecDepth 100000 in
theorem mt_D_in (l : Launch) (D : va_G) (sz : Nat) (p0 : Int64) (p1 : Int64) (p2 : Int64) : Met l y_D_in w_D_in ({ frames := 0, cells := 0, slots := 0, locals := 0 }) (va_Pc [.long p0, .long p1, .long p2] (zw_pre D vwCl [] sz ([]) (fun _ => True))) (va_Qi (fun r (_ : Unit) => r = m_in p0 p1 p2) (fun u t => zw_at D vwCl (va_A ([]) sz) ((fun (_ : Unit) => []) u) t) (va_A ([]) sz)) 0 0 (va_A ([]) sz) := by
  refine zm (Qf := fun A => va_Qi (fun r (_ : Unit) => r = m_in p0 p1 p2) (fun u t => zw_at D vwCl A ((fun (_ : Unit) => []) u) t) A) (Zf := fun _ _ => True) (cc := c_D_in) (nL := 6) (ret := (some .boolean)) (by decide) rfl (Nat.le_of_ble_eq_true rfl) ?_
  intro p e s m below meth c9 A H locs ls hx hb hml hown hts hr hlocks hA hK hP hD hS hZ hl
  have hl : lv_has ls 6 [(0, .long p0), (2, .long p1), (4, .long p2)] := hl
  have ht : ∀ w9 ∈ zT, w9.before _ s = true := fun w9 h9 => hts w9 (List.mem_cons_of_mem _ h9)
  refine lv_lload_n hx hb d_D_in_0 rfl (lv_at hl 0 rfl) ?_
  refine lv_lload_n hx hb d_D_in_1 rfl (lv_at hl 1 rfl) ?_
  refine W.lcmp hx hb d_D_in_2 ?_
  refine zcut (X := Int32) (G := fun v9 H locs ls => v9 = (if (lg_cmp p0 p1) < (0 : Int32) then (0 : Int32) else (if (0 : Int32) < (lg_cmp p0 p2) then (0 : Int32) else (1 : Int32))) ∧ va_P D vwCl ([]) H ∧ va_D A ([]) ∧ va_S A s.heap H locs ∧ lv_has ls 6 [(0, .long p0), (2, .long p1), (4, .long p2)]) (fr := fun v9 ls => F0 m 18 ls [.int v9]) (fun J_2 => ?_) (fun v9 H locs ls hG => ?_)
  · refine lv_if_lt (tgt := 17) hx hb d_D_in_3 (by decide) (fun c_3 => ?_) (fun c_3 => ?_)
    · refine lv_iconst (v := (0 : Int32)) hx hb d_D_in_17 (by decide) ?_
      exact J_2 (0 : Int32) _ _ _ ⟨by simp only [if_pos c_3], hP, hD, hS, hl⟩
    refine lv_lload_n hx hb d_D_in_6 rfl (lv_at hl 0 rfl) ?_
    refine lv_lload hx hb d_D_in_7 (lv_at hl 2 rfl) ?_
    refine W.lcmp hx hb d_D_in_9 ?_
    refine lv_if_gt (tgt := 17) hx hb d_D_in_10 (by decide) (fun c_4 => ?_) (fun c_4 => ?_)
    · refine lv_iconst (v := (0 : Int32)) hx hb d_D_in_17 (by decide) ?_
      exact J_2 (0 : Int32) _ _ _ ⟨by simp only [if_neg c_3, if_pos c_4], hP, hD, hS, hl⟩
    refine lv_iconst (v := (1 : Int32)) hx hb d_D_in_13 (by decide) ?_
    refine lv_goto (tgt := 18) hx hb d_D_in_14 (by decide) ?_
    exact J_2 (1 : Int32) _ _ _ ⟨by simp only [if_neg c_3, if_neg c_4], hP, hD, hS, hl⟩
  obtain ⟨x_1, rfl⟩ : ∃ z, z = v9 := ⟨_, rfl⟩
  obtain ⟨ex_1, hP, hD, hS, hl⟩ := hG
  have zbx_1 : zB x_1 := by rw [ex_1]; repeat' first | exact zB0 | exact zB1 | assumption | apply zB_ite
  exact zl_z (u := ()) hx hb hr (zbx_1).n hlocks hS hP hD (by simp only [m_in, ← ex_1]) d_D_in_18
theorem d_D_bit_0 : decode c_D_bit 0 = .ok (.iload_n 0, 1) := by decide +kernel
theorem d_D_bit_1 : decode c_D_bit 1 = .ok (.ifCond .eq 7, 3) := by decide +kernel
theorem d_D_bit_4 : decode c_D_bit 4 = .ok (.iconst 1, 1) := by decide +kernel
theorem d_D_bit_5 : decode c_D_bit 5 = .ok (.goto 4, 3) := by decide +kernel
theorem d_D_bit_8 : decode c_D_bit 8 = .ok (.iconst 0, 1) := by decide +kernel
theorem d_D_bit_9 : decode c_D_bit 9 = .ok (.ireturn, 1) := by decide +kernel
theorem kd_D_bit : (y_D_bit).cls = "WindowMachineModel" ∧ (y_D_bit).cls ≠ "java/lang/invoke/MethodHandle" ∧ (y_D_bit).cls ≠ "java/lang/invoke/VarHandle" ∧ (parseMethodDescriptor (y_D_bit).desc).map (fun d => d.parameters.length) = some 1 := by decide +kernel
def m_bit (p0 : Int32) : Int32 := (let x_1 := (if p0 = (0 : Int32) then (0 : Int32) else (1 : Int32)); x_1)
set_option maxHeartbeats 4000000 in
set_option maxRecDepth 100000 in
theorem mt_D_bit (l : Launch) (D : va_G) (sz : Nat) (p0 : Int32) : Met l y_D_bit w_D_bit ({ frames := 0, cells := 0, slots := 0, locals := 0 }) (va_Pc [.int p0] (zw_pre D vwCl [] sz ([]) (fun _ => True))) (va_Qi (fun r (_ : Unit) => r = m_bit p0) (fun u t => zw_at D vwCl (va_A ([]) sz) ((fun (_ : Unit) => []) u) t) (va_A ([]) sz)) 0 0 (va_A ([]) sz) := by
  refine zm (Qf := fun A => va_Qi (fun r (_ : Unit) => r = m_bit p0) (fun u t => zw_at D vwCl A ((fun (_ : Unit) => []) u) t) A) (Zf := fun _ _ => True) (cc := c_D_bit) (nL := 1) (ret := (some .int)) (by decide) rfl (Nat.le_of_ble_eq_true rfl) ?_
  intro p e s m below meth c9 A H locs ls hx hb hml hown hts hr hlocks hA hK hP hD hS hZ hl
  have hl : lv_has ls 1 [(0, .int p0)] := hl
  have ht : ∀ w9 ∈ zT, w9.before _ s = true := fun w9 h9 => hts w9 (List.mem_cons_of_mem _ h9)
  refine lv_iload_n hx hb d_D_bit_0 rfl (lv_at hl 0 rfl) ?_
  refine zcut (X := Int32) (G := fun v9 H locs ls => v9 = (if p0 = (0 : Int32) then (0 : Int32) else (1 : Int32)) ∧ va_P D vwCl ([]) H ∧ va_D A ([]) ∧ va_S A s.heap H locs ∧ lv_has ls 1 [(0, .int p0)]) (fr := fun v9 ls => F0 m 9 ls [.int v9]) (fun J_2 => ?_) (fun v9 H locs ls hG => ?_)
  · refine lv_if_eq (tgt := 8) hx hb d_D_bit_1 (by decide) (fun c_3 => ?_) (fun c_3 => ?_)
    · refine lv_iconst (v := (0 : Int32)) hx hb d_D_bit_8 (by decide) ?_
      exact J_2 (0 : Int32) _ _ _ ⟨by simp only [if_pos c_3], hP, hD, hS, hl⟩
    refine lv_iconst (v := (1 : Int32)) hx hb d_D_bit_4 (by decide) ?_
    refine lv_goto (tgt := 9) hx hb d_D_bit_5 (by decide) ?_
    exact J_2 (1 : Int32) _ _ _ ⟨by simp only [if_neg c_3], hP, hD, hS, hl⟩
  obtain ⟨x_1, rfl⟩ : ∃ z, z = v9 := ⟨_, rfl⟩
  obtain ⟨ex_1, hP, hD, hS, hl⟩ := hG
  have zbx_1 : zB x_1 := by rw [ex_1]; repeat' first | exact zB0 | exact zB1 | assumption | apply zB_ite
  exact zl_i (u := ()) hx hb hr hlocks hS hP hD (by simp only [m_bit, ← ex_1]) d_D_bit_9
theorem d_D_bare_0 : decode c_D_bare 0 = .ok (.iload_n 0, 1) := by decide +kernel
theorem d_D_bare_1 : decode c_D_bare 1 = .ok (.i2l, 1) := by decide +kernel
theorem d_D_bare_2 : decode c_D_bare 2 = .ok (.ldc2_w 315, 3) := by decide +kernel
theorem d_D_bare_5 : decode c_D_bare 5 = .ok (.land, 1) := by decide +kernel
theorem d_D_bare_6 : decode c_D_bare 6 = .ok (.lreturn, 1) := by decide +kernel
theorem kd_D_bare : (y_D_bare).cls = "WindowMachineModel" ∧ (y_D_bare).cls ≠ "java/lang/invoke/MethodHandle" ∧ (y_D_bare).cls ≠ "java/lang/invoke/VarHandle" ∧ (parseMethodDescriptor (y_D_bare).desc).map (fun d => d.parameters.length) = some 1 := by decide +kernel
def m_bare (p0 : Int32) : Int64 := p0.toInt64 &&& (4294967295 : Int64)
set_option maxHeartbeats 4000000 in
set_option maxRecDepth 100000 in
theorem mt_D_bare (l : Launch) (D : va_G) (sz : Nat) (p0 : Int32) : Met l y_D_bare w_D_bare ({ frames := 0, cells := 0, slots := 0, locals := 0 }) (va_Pc [.int p0] (zw_pre D vwCl [] sz ([]) (fun _ => True))) (va_Ql (fun r (_ : Unit) => r = m_bare p0) (fun u t => zw_at D vwCl (va_A ([]) sz) ((fun (_ : Unit) => []) u) t) (va_A ([]) sz)) 0 0 (va_A ([]) sz) := by
  refine zm (Qf := fun A => va_Ql (fun r (_ : Unit) => r = m_bare p0) (fun u t => zw_at D vwCl A ((fun (_ : Unit) => []) u) t) A) (Zf := fun _ _ => True) (cc := c_D_bare) (nL := 1) (ret := (some .long)) (by decide) rfl (Nat.le_of_ble_eq_true rfl) ?_
  intro p e s m below meth c9 A H locs ls hx hb hml hown hts hr hlocks hA hK hP hD hS hZ hl
  have hl : lv_has ls 1 [(0, .int p0)] := hl
  have ht : ∀ w9 ∈ zT, w9.before _ s = true := fun w9 h9 => hts w9 (List.mem_cons_of_mem _ h9)
  refine lv_iload_n hx hb d_D_bare_0 rfl (lv_at hl 0 rfl) ?_
  refine lv_i2l (v := p0.toInt64) hx hb d_D_bare_1 rfl ?_
  refine lv_ldc2 (v := (4294967295 : Int64)) hx hb hown (ht _ zw_1038) d_D_bare_2 ?_
  refine lv_land hx hb d_D_bare_5 ?_
  exact zl_l (u := ()) hx hb hr hlocks hS hP hD (by simp only [m_bare]) d_D_bare_6
theorem d_D_isWord_0 : decode c_D_isWord 0 = .ok (.iload_n 0, 1) := by decide +kernel
theorem d_D_isWord_1 : decode c_D_isWord 1 = .ok (.i2l, 1) := by decide +kernel
theorem d_D_isWord_2 : decode c_D_isWord 2 = .ok (.lconst 0, 1) := by decide +kernel
theorem d_D_isWord_3 : decode c_D_isWord 3 = .ok (.ldc2_w 280, 3) := by decide +kernel
theorem d_D_isWord_6 : decode c_D_isWord 6 = .ok (.invokestatic 282, 3) := by decide +kernel
theorem d_D_isWord_9 : decode c_D_isWord 9 = .ok (.ifCond .eq 13, 3) := by decide +kernel
theorem d_D_isWord_12 : decode c_D_isWord 12 = .ok (.iload_n 0, 1) := by decide +kernel
theorem d_D_isWord_13 : decode c_D_isWord 13 = .ok (.iconst 3, 1) := by decide +kernel
theorem d_D_isWord_14 : decode c_D_isWord 14 = .ok (.iand, 1) := by decide +kernel
theorem d_D_isWord_15 : decode c_D_isWord 15 = .ok (.ifCond .ne 7, 3) := by decide +kernel
theorem d_D_isWord_18 : decode c_D_isWord 18 = .ok (.iconst 1, 1) := by decide +kernel
theorem d_D_isWord_19 : decode c_D_isWord 19 = .ok (.goto 4, 3) := by decide +kernel
theorem d_D_isWord_22 : decode c_D_isWord 22 = .ok (.iconst 0, 1) := by decide +kernel
theorem d_D_isWord_23 : decode c_D_isWord 23 = .ok (.ireturn, 1) := by decide +kernel
theorem kd_D_isWord : (y_D_isWord).cls = "WindowMachineModel" ∧ (y_D_isWord).cls ≠ "java/lang/invoke/MethodHandle" ∧ (y_D_isWord).cls ≠ "java/lang/invoke/VarHandle" ∧ (parseMethodDescriptor (y_D_isWord).desc).map (fun d => d.parameters.length) = some 1 := by decide +kernel
def m_isWord (p0 : Int32) : Int32 := (let r_1 := m_in p0.toInt64 (0 : Int64) (1020 : Int64); (let x_2 := (if r_1 = (0 : Int32) then (0 : Int32) else (if (p0 &&& (3 : Int32)) = (0 : Int32) then (1 : Int32) else (0 : Int32))); x_2))
set_option maxHeartbeats 4000000 in
set_option maxRecDepth 100000 in
theorem mt_D_isWord (l : Launch) (D : va_G) (sz : Nat) (p0 : Int32) : Met l y_D_isWord w_D_isWord ({ frames := 1, cells := 0, slots := 0, locals := 25 }) (va_Pc [.int p0] (zw_pre D vwCl [] sz ([]) (fun _ => True))) (va_Qi (fun r (_ : Unit) => r = m_isWord p0) (fun u t => zw_at D vwCl (va_A ([]) sz) ((fun (_ : Unit) => []) u) t) (va_A ([]) sz)) 0 0 (va_A ([]) sz) := by
  refine zm (Qf := fun A => va_Qi (fun r (_ : Unit) => r = m_isWord p0) (fun u t => zw_at D vwCl A ((fun (_ : Unit) => []) u) t) A) (Zf := fun _ _ => True) (cc := c_D_isWord) (nL := 1) (ret := (some .boolean)) (by decide) rfl (Nat.le_of_ble_eq_true rfl) ?_
  intro p e s m below meth c9 A H locs ls hx hb hml hown hts hr hlocks hA hK hP hD hS hZ hl
  have hl : lv_has ls 1 [(0, .int p0)] := hl
  have ht : ∀ w9 ∈ zT, w9.before _ s = true := fun w9 h9 => hts w9 (List.mem_cons_of_mem _ h9)
  refine lv_iload_n hx hb d_D_isWord_0 rfl (lv_at hl 0 rfl) ?_
  refine lv_i2l (v := p0.toInt64) hx hb d_D_isWord_1 rfl ?_
  refine lv_lconst (v := (0 : Int64)) hx hb d_D_isWord_2 (by decide) ?_
  refine lv_ldc2 (v := (1020 : Int64)) hx hb hown (ht _ zw_960) d_D_isWord_3 ?_
  refine zc_i (w2 := fun _ => []) (va_runS (As := [.long p0.toInt64, .long (0 : Int64), .long (1020 : Int64)]) (rest := []) ⟨hx, hb, hml, hown, ht⟩ (mt_D_in l D H.size p0.toInt64 (0 : Int64) (1020 : Int64)) (cwS 3 ht (zgS zw_961 zw_962 zw_7 zw_963) rfl rfl rfl kd_D_in ⟨Nat.le_of_ble_eq_true rfl, Nat.le_of_ble_eq_true rfl⟩) ⟨zw_blind zw_tt, zw_go (hP.sub (ws' := []) [] rfl) (hD.sub (ws' := []) [] (by decide) rfl) (hK.sub (tys' := []) [] rfl) (fun _ _ _ => trivial)⟩ rfl rfl hl.1 rfl (lv_room (Nat.le_of_ble_eq_true rfl)) d_D_isWord_6 ⟨Nat.le_of_ble_eq_true rfl, Nat.le_of_ble_eq_true rfl⟩) hP hD hS hA [] [] [] rfl rfl (by decide) (by decide) (by decide) (fun _ => rfl) (fun r_1 _ H locs hw hP hD hS => ?_)
  have er_1 := hw
  refine zcut (X := Int32) (G := fun v9 H locs ls => v9 = (if r_1 = (0 : Int32) then (0 : Int32) else (if (p0 &&& (3 : Int32)) = (0 : Int32) then (1 : Int32) else (0 : Int32))) ∧ va_P D vwCl ([]) H ∧ va_D A ([]) ∧ va_S A s.heap H locs ∧ lv_has ls 1 [(0, .int p0)]) (fr := fun v9 ls => F0 m 23 ls [.int v9]) (fun J_3 => ?_) (fun v9 H locs ls hG => ?_)
  · refine lv_if_eq (tgt := 22) hx hb d_D_isWord_9 (by decide) (fun c_4 => ?_) (fun c_4 => ?_)
    · refine lv_iconst (v := (0 : Int32)) hx hb d_D_isWord_22 (by decide) ?_
      exact J_3 (0 : Int32) _ _ _ ⟨by simp only [if_pos c_4], hP, hD, hS, hl⟩
    refine lv_iload_n hx hb d_D_isWord_12 rfl (lv_at hl 0 rfl) ?_
    refine lv_iconst (v := (3 : Int32)) hx hb d_D_isWord_13 (by decide) ?_
    refine lv_iand hx hb d_D_isWord_14 ?_
    refine lv_if_ne (tgt := 22) hx hb d_D_isWord_15 (by decide) (fun c_5 => ?_) (fun c_5 => ?_)
    · refine lv_iconst (v := (0 : Int32)) hx hb d_D_isWord_22 (by decide) ?_
      exact J_3 (0 : Int32) _ _ _ ⟨by simp only [if_neg c_4, if_neg c_5], hP, hD, hS, hl⟩
    refine lv_iconst (v := (1 : Int32)) hx hb d_D_isWord_18 (by decide) ?_
    refine lv_goto (tgt := 23) hx hb d_D_isWord_19 (by decide) ?_
    exact J_3 (1 : Int32) _ _ _ ⟨by simp only [if_neg c_4, if_pos c_5], hP, hD, hS, hl⟩
  obtain ⟨x_2, rfl⟩ : ∃ z, z = v9 := ⟨_, rfl⟩
  obtain ⟨ex_2, hP, hD, hS, hl⟩ := hG
  have zbx_2 : zB x_2 := by rw [ex_2]; repeat' first | exact zB0 | exact zB1 | assumption | apply zB_ite
  exact zl_z (u := ()) hx hb hr (zbx_2).n hlocks hS hP hD (by simp only [m_isWord, ← er_1, ← ex_2]) d_D_isWord_23
theorem d_D_thrown_0 : decode c_D_thrown 0 = .ok (.aload_n 0, 1) := by decide +kernel
theorem d_D_thrown_1 : decode c_D_thrown 1 = .ok (.getfield 228, 3) := by decide +kernel
theorem d_D_thrown_4 : decode c_D_thrown 4 = .ok (.ireturn, 1) := by decide +kernel
theorem kd_D_thrown : (y_D_thrown).cls = "WindowMachineModel" ∧ (y_D_thrown).cls ≠ "java/lang/invoke/MethodHandle" ∧ (y_D_thrown).cls ≠ "java/lang/invoke/VarHandle" ∧ (parseMethodDescriptor (y_D_thrown).desc).map (fun d => d.parameters.length) = some 0 := by decide +kernel
def m_thrown (st : SD) : Int32 := st.1 0
set_option maxHeartbeats 4000000 in
set_option maxRecDepth 100000 in
theorem mt_D_thrown (l : Launch) (D : va_G) (h : Nat → Nat) (c : Nat → ClassId) (sz : Nat) (st : SD) : Met l y_D_thrown w_D_thrown ({ frames := 0, cells := 0, slots := 0, locals := 0 }) (va_Pc [.ref (h 20)] (zw_pre D vwCl [(c 21, .long), (c 22, .int), (c 23, .int), (c 24, .int), (c 25, .int), (c 26, .int), (c 27, .int), (c 28, .int)] sz (wD h c st) (fun _ => True))) (va_Qi (fun r (_ : Unit) => r = m_thrown st) (fun u t => zw_at D vwCl (va_A (wD h c st) sz) ((fun (_ : Unit) => wD h c st) u) t) (va_A (wD h c st) sz)) 0 0 (va_A (wD h c st) sz) := by
  refine zm (Qf := fun A => va_Qi (fun r (_ : Unit) => r = m_thrown st) (fun u t => zw_at D vwCl A ((fun (_ : Unit) => wD h c st) u) t) A) (Zf := fun _ _ => True) (cc := c_D_thrown) (nL := 1) (ret := (some .int)) (by decide) rfl (Nat.le_of_ble_eq_true rfl) ?_
  intro p e s m below meth c9 A H locs ls hx hb hml hown hts hr hlocks hA hK hP hD hS hZ hl
  have hl : lv_has ls 1 [(0, .ref (h 20))] := hl
  have ht : ∀ w9 ∈ zT, w9.before _ s = true := fun w9 h9 => hts w9 (List.mem_cons_of_mem _ h9)
  refine lv_aload_n hx hb d_D_thrown_0 rfl (lv_at hl 0 rfl) ?_
  refine va_get (D := D) (ci := 6) (v := .int (st.1 0)) (C := "WindowMachineModel") (T := T_D) (N := 31) hx hb ht zi_D hown hK hP 0 rfl rfl 3 (by decide) (ht _ zw_857) (fun _ h9 => h9) rfl d_D_thrown_1 ?_
  exact zl_i (u := ()) hx hb hr hlocks hS hP hD (by simp only [m_thrown]) d_D_thrown_4
theorem d_D_place_0 : decode c_D_place 0 = .ok (.aload_n 0, 1) := by decide +kernel
theorem d_D_place_1 : decode c_D_place 1 = .ok (.iconst 0, 1) := by decide +kernel
theorem d_D_place_2 : decode c_D_place 2 = .ok (.putfield 228, 3) := by decide +kernel
theorem d_D_place_5 : decode c_D_place 5 = .ok (.aload_n 0, 1) := by decide +kernel
theorem d_D_place_6 : decode c_D_place 6 = .ok (.getfield 202, 3) := by decide +kernel
theorem d_D_place_9 : decode c_D_place 9 = .ok (.ireturn, 1) := by decide +kernel
theorem kd_D_place : (y_D_place).cls = "WindowMachineModel" ∧ (y_D_place).cls ≠ "java/lang/invoke/MethodHandle" ∧ (y_D_place).cls ≠ "java/lang/invoke/VarHandle" ∧ (parseMethodDescriptor (y_D_place).desc).map (fun d => d.parameters.length) = some 0 := by decide +kernel
def m_place (st : SD) : Int32 × SD := (st.1 2, (upd st.1 0 (0 : Int32), st.2.1, st.2.2.1, st.2.2.2.1, st.2.2.2.2.1, st.2.2.2.2.2))
set_option maxHeartbeats 4000000 in
set_option maxRecDepth 100000 in
theorem mt_D_place (l : Launch) (D : va_G) (h : Nat → Nat) (c : Nat → ClassId) (sz : Nat) (st : SD) : Met l y_D_place w_D_place ({ frames := 0, cells := 0, slots := 0, locals := 0 }) (va_Pc [.ref (h 20)] (zw_pre D vwCl [(c 21, .long), (c 22, .int), (c 23, .int), (c 24, .int), (c 25, .int), (c 26, .int), (c 27, .int), (c 28, .int)] sz (wD h c st) (fun _ => True))) (va_Qi (fun r (u : SD) => r = (m_place st).1 ∧ u = (m_place st).2) (fun u t => zw_at D vwCl (va_A (wD h c st) sz) ((fun (u : SD) => wD h c u) u) t) (va_A (wD h c st) sz)) 0 0 (va_A (wD h c st) sz) := by
  refine zm (Qf := fun A => va_Qi (fun r (u : SD) => r = (m_place st).1 ∧ u = (m_place st).2) (fun u t => zw_at D vwCl A ((fun (u : SD) => wD h c u) u) t) A) (Zf := fun _ _ => True) (cc := c_D_place) (nL := 1) (ret := (some .int)) (by decide) rfl (Nat.le_of_ble_eq_true rfl) ?_
  intro p e s m below meth c9 A H locs ls hx hb hml hown hts hr hlocks hA hK hP hD hS hZ hl
  have hl : lv_has ls 1 [(0, .ref (h 20))] := hl
  have ht : ∀ w9 ∈ zT, w9.before _ s = true := fun w9 h9 => hts w9 (List.mem_cons_of_mem _ h9)
  refine lv_aload_n hx hb d_D_place_0 rfl (lv_at hl 0 rfl) ?_
  refine lv_iconst (v := (0 : Int32)) hx hb d_D_place_1 (by decide) ?_
  refine va_put (D := D) (ci := 6) (v := .int (0 : Int32)) (ty := .int) (C := "WindowMachineModel") (T := T_D) (N := 31) hx hb ht zi_D ty_D tyok_D nm_D hown hK hP hD hS 0 rfl rfl 3 (by decide) (ht _ zw_857) (fun _ h9 => h9) rfl (by decide +kernel) rfl rfl (Nat.le_of_ble_eq_true rfl) d_D_place_2 (fun H locs hP hD hS => ?_)
  have hP : va_P D vwCl (wD h c (upd st.1 0 (0 : Int32), st.2.1, st.2.2.1, st.2.2.2.1, st.2.2.2.2.1, st.2.2.2.2.2)) H := hP
  have hD : va_D A (wD h c (upd st.1 0 (0 : Int32), st.2.1, st.2.2.1, st.2.2.2.1, st.2.2.2.2.1, st.2.2.2.2.2)) := hD
  refine lv_aload_n hx hb d_D_place_5 rfl (lv_at hl 0 rfl) ?_
  refine va_get (D := D) (ci := 6) (v := .int (st.1 2)) (C := "WindowMachineModel") (T := T_D) (N := 31) hx hb ht zi_D hown hK hP 0 rfl rfl 5 (by decide) (ht _ zw_859) (fun _ h9 => h9) rfl d_D_place_6 ?_
  exact zl_i (u := (upd st.1 0 (0 : Int32), st.2.1, st.2.2.1, st.2.2.2.1, st.2.2.2.2.1, st.2.2.2.2.2)) hx hb hr hlocks hS hP hD (⟨by simp only [m_place], by simp only [m_place]⟩) d_D_place_9
theorem d_D_fails_0 : decode c_D_fails 0 = .ok (.iload_n 1, 1) := by decide +kernel
theorem d_D_fails_1 : decode c_D_fails 1 = .ok (.ifCond .eq 15, 3) := by decide +kernel
theorem d_D_fails_4 : decode c_D_fails 4 = .ok (.aload_n 0, 1) := by decide +kernel
theorem d_D_fails_5 : decode c_D_fails 5 = .ok (.getfield 228, 3) := by decide +kernel
theorem d_D_fails_8 : decode c_D_fails 8 = .ok (.ifCond .ne 8, 3) := by decide +kernel
theorem d_D_fails_11 : decode c_D_fails 11 = .ok (.aload_n 0, 1) := by decide +kernel
theorem d_D_fails_12 : decode c_D_fails 12 = .ok (.iload_n 2, 1) := by decide +kernel
theorem d_D_fails_13 : decode c_D_fails 13 = .ok (.putfield 228, 3) := by decide +kernel
theorem d_D_fails_16 : decode c_D_fails 16 = .ok (.aload_n 0, 1) := by decide +kernel
theorem d_D_fails_17 : decode c_D_fails 17 = .ok (.getfield 228, 3) := by decide +kernel
theorem d_D_fails_20 : decode c_D_fails 20 = .ok (.ifCond .eq 7, 3) := by decide +kernel
theorem d_D_fails_23 : decode c_D_fails 23 = .ok (.iconst 1, 1) := by decide +kernel
theorem d_D_fails_24 : decode c_D_fails 24 = .ok (.goto 4, 3) := by decide +kernel
theorem d_D_fails_27 : decode c_D_fails 27 = .ok (.iconst 0, 1) := by decide +kernel
theorem d_D_fails_28 : decode c_D_fails 28 = .ok (.ireturn, 1) := by decide +kernel
theorem kd_D_fails : (y_D_fails).cls = "WindowMachineModel" ∧ (y_D_fails).cls ≠ "java/lang/invoke/MethodHandle" ∧ (y_D_fails).cls ≠ "java/lang/invoke/VarHandle" ∧ (parseMethodDescriptor (y_D_fails).desc).map (fun d => d.parameters.length) = some 2 := by decide +kernel
def m_fails (st : SD) (p0 : Int32) (p1 : Int32) : Int32 × SD := (let u_1 := (if p0 = (0 : Int32) then st else (if (st.1 0) = (0 : Int32) then (upd st.1 0 p1, st.2.1, st.2.2.1, st.2.2.2.1, st.2.2.2.2.1, st.2.2.2.2.2) else st)); (let x_5 := (if (u_1.1 0) = (0 : Int32) then (0 : Int32) else (1 : Int32)); (x_5, u_1)))
set_option maxHeartbeats 4000000 in
set_option maxRecDepth 100000 in
theorem mt_D_fails (l : Launch) (D : va_G) (h : Nat → Nat) (c : Nat → ClassId) (sz : Nat) (st : SD) (p0 : Int32) (p1 : Int32) : Met l y_D_fails w_D_fails ({ frames := 0, cells := 0, slots := 0, locals := 0 }) (va_Pc [.ref (h 20), .int p0, .int p1] (zw_pre D vwCl [(c 21, .long), (c 22, .int), (c 23, .int), (c 24, .int), (c 25, .int), (c 26, .int), (c 27, .int), (c 28, .int)] sz (wD h c st) (fun _ => True))) (va_Qi (fun r (u : SD) => r = (m_fails st p0 p1).1 ∧ u = (m_fails st p0 p1).2) (fun u t => zw_at D vwCl (va_A (wD h c st) sz) ((fun (u : SD) => wD h c u) u) t) (va_A (wD h c st) sz)) 0 0 (va_A (wD h c st) sz) := by
  refine zm (Qf := fun A => va_Qi (fun r (u : SD) => r = (m_fails st p0 p1).1 ∧ u = (m_fails st p0 p1).2) (fun u t => zw_at D vwCl A ((fun (u : SD) => wD h c u) u) t) A) (Zf := fun _ _ => True) (cc := c_D_fails) (nL := 3) (ret := (some .boolean)) (by decide) rfl (Nat.le_of_ble_eq_true rfl) ?_
  intro p e s m below meth c9 A H locs ls hx hb hml hown hts hr hlocks hA hK hP hD hS hZ hl
  have hl : lv_has ls 3 [(0, .ref (h 20)), (1, .int p0), (2, .int p1)] := hl
  have ht : ∀ w9 ∈ zT, w9.before _ s = true := fun w9 h9 => hts w9 (List.mem_cons_of_mem _ h9)
  refine lv_iload_n hx hb d_D_fails_0 rfl (lv_at hl 1 rfl) ?_
  refine zcut (X := SD) (G := fun v9 H locs ls => v9 = (if p0 = (0 : Int32) then st else (if (st.1 0) = (0 : Int32) then (upd st.1 0 p1, st.2.1, st.2.2.1, st.2.2.2.1, st.2.2.2.2.1, st.2.2.2.2.2) else st)) ∧ va_P D vwCl (wD h c v9) H ∧ va_D A (wD h c v9) ∧ va_S A s.heap H locs ∧ lv_has ls 3 [(0, .ref (h 20)), (1, .int p0), (2, .int p1)]) (fr := fun v9 ls => F0 m 16 ls []) (fun J_2 => ?_) (fun v9 H locs ls hG => ?_)
  · refine lv_if_eq (tgt := 16) hx hb d_D_fails_1 (by decide) (fun c_3 => ?_) (fun c_3 => ?_)
    · exact J_2 st _ _ _ ⟨by simp only [if_pos c_3], hP, hD, hS, hl⟩
    refine lv_aload_n hx hb d_D_fails_4 rfl (lv_at hl 0 rfl) ?_
    refine va_get (D := D) (ci := 6) (v := .int (st.1 0)) (C := "WindowMachineModel") (T := T_D) (N := 31) hx hb ht zi_D hown hK hP 0 rfl rfl 3 (by decide) (ht _ zw_857) (fun _ h9 => h9) rfl d_D_fails_5 ?_
    refine lv_if_ne (tgt := 16) hx hb d_D_fails_8 (by decide) (fun c_4 => ?_) (fun c_4 => ?_)
    · exact J_2 st _ _ _ ⟨by simp only [if_neg c_3, if_neg c_4], hP, hD, hS, hl⟩
    refine lv_aload_n hx hb d_D_fails_11 rfl (lv_at hl 0 rfl) ?_
    refine lv_iload_n hx hb d_D_fails_12 rfl (lv_at hl 2 rfl) ?_
    refine va_put (D := D) (ci := 6) (v := .int p1) (ty := .int) (C := "WindowMachineModel") (T := T_D) (N := 31) hx hb ht zi_D ty_D tyok_D nm_D hown hK hP hD hS 0 rfl rfl 3 (by decide) (ht _ zw_857) (fun _ h9 => h9) rfl (by decide +kernel) rfl rfl (Nat.le_of_ble_eq_true rfl) d_D_fails_13 (fun H locs hP hD hS => ?_)
    have hP : va_P D vwCl (wD h c (upd st.1 0 p1, st.2.1, st.2.2.1, st.2.2.2.1, st.2.2.2.2.1, st.2.2.2.2.2)) H := hP
    have hD : va_D A (wD h c (upd st.1 0 p1, st.2.1, st.2.2.1, st.2.2.2.1, st.2.2.2.2.1, st.2.2.2.2.2)) := hD
    exact J_2 (upd st.1 0 p1, st.2.1, st.2.2.1, st.2.2.2.1, st.2.2.2.2.1, st.2.2.2.2.2) _ _ _ ⟨by simp only [if_neg c_3, if_pos c_4], hP, hD, hS, hl⟩
  obtain ⟨u_1, rfl⟩ : ∃ z, z = v9 := ⟨_, rfl⟩
  obtain ⟨eu_1, hP, hD, hS, hl⟩ := hG
  refine lv_aload_n hx hb d_D_fails_16 rfl (lv_at hl 0 rfl) ?_
  refine va_get (D := D) (ci := 6) (v := .int (u_1.1 0)) (C := "WindowMachineModel") (T := T_D) (N := 31) hx hb ht zi_D hown hK hP 0 rfl rfl 3 (by decide) (ht _ zw_857) (fun _ h9 => h9) rfl d_D_fails_17 ?_
  refine zcut (X := Int32) (G := fun v9 H locs ls => v9 = (if (u_1.1 0) = (0 : Int32) then (0 : Int32) else (1 : Int32)) ∧ va_P D vwCl (wD h c u_1) H ∧ va_D A (wD h c u_1) ∧ va_S A s.heap H locs ∧ lv_has ls 3 [(0, .ref (h 20)), (1, .int p0), (2, .int p1)]) (fr := fun v9 ls => F0 m 28 ls [.int v9]) (fun J_6 => ?_) (fun v9 H locs ls hG => ?_)
  · refine lv_if_eq (tgt := 27) hx hb d_D_fails_20 (by decide) (fun c_7 => ?_) (fun c_7 => ?_)
    · refine lv_iconst (v := (0 : Int32)) hx hb d_D_fails_27 (by decide) ?_
      exact J_6 (0 : Int32) _ _ _ ⟨by simp only [if_pos c_7], hP, hD, hS, hl⟩
    refine lv_iconst (v := (1 : Int32)) hx hb d_D_fails_23 (by decide) ?_
    refine lv_goto (tgt := 28) hx hb d_D_fails_24 (by decide) ?_
    exact J_6 (1 : Int32) _ _ _ ⟨by simp only [if_neg c_7], hP, hD, hS, hl⟩
  obtain ⟨x_5, rfl⟩ : ∃ z, z = v9 := ⟨_, rfl⟩
  obtain ⟨ex_5, hP, hD, hS, hl⟩ := hG
  have zbx_5 : zB x_5 := by rw [ex_5]; repeat' first | exact zB0 | exact zB1 | assumption | apply zB_ite
  exact zl_z (u := u_1) hx hb hr (zbx_5).n hlocks hS hP hD (⟨by simp only [m_fails, ← eu_1, ← ex_5], by simp only [m_fails, ← eu_1, ← ex_5]⟩) d_D_fails_28
theorem d_D_traps_0 : decode c_D_traps 0 = .ok (.iload_n 1, 1) := by decide +kernel
theorem d_D_traps_1 : decode c_D_traps 1 = .ok (.ifCond .eq 15, 3) := by decide +kernel
theorem d_D_traps_4 : decode c_D_traps 4 = .ok (.aload_n 0, 1) := by decide +kernel
theorem d_D_traps_5 : decode c_D_traps 5 = .ok (.getfield 312, 3) := by decide +kernel
theorem d_D_traps_8 : decode c_D_traps 8 = .ok (.ifCond .ge 8, 3) := by decide +kernel
theorem d_D_traps_11 : decode c_D_traps 11 = .ok (.aload_n 0, 1) := by decide +kernel
theorem d_D_traps_12 : decode c_D_traps 12 = .ok (.iload_n 2, 1) := by decide +kernel
theorem d_D_traps_13 : decode c_D_traps 13 = .ok (.putfield 312, 3) := by decide +kernel
theorem d_D_traps_16 : decode c_D_traps 16 = .ok (.return_, 1) := by decide +kernel
theorem kd_D_traps : (y_D_traps).cls = "WindowMachineModel" ∧ (y_D_traps).cls ≠ "java/lang/invoke/MethodHandle" ∧ (y_D_traps).cls ≠ "java/lang/invoke/VarHandle" ∧ (parseMethodDescriptor (y_D_traps).desc).map (fun d => d.parameters.length) = some 2 := by decide +kernel
def m_traps (st : SD) (p0 : Int32) (p1 : Int32) : SD := (let u_1 := (if p0 = (0 : Int32) then st else (if (0 : Int32) ≤ (st.1 21) then st else (upd st.1 21 p1, st.2.1, st.2.2.1, st.2.2.2.1, st.2.2.2.2.1, st.2.2.2.2.2))); u_1)
set_option maxHeartbeats 4000000 in
set_option maxRecDepth 100000 in
theorem mt_D_traps (l : Launch) (D : va_G) (h : Nat → Nat) (c : Nat → ClassId) (sz : Nat) (st : SD) (p0 : Int32) (p1 : Int32) : Met l y_D_traps w_D_traps ({ frames := 0, cells := 0, slots := 0, locals := 0 }) (va_Pc [.ref (h 20), .int p0, .int p1] (zw_pre D vwCl [(c 21, .long), (c 22, .int), (c 23, .int), (c 24, .int), (c 25, .int), (c 26, .int), (c 27, .int), (c 28, .int)] sz (wD h c st) (fun _ => True))) (va_Qv (fun (u : SD) => u = m_traps st p0 p1) (fun u t => zw_at D vwCl (va_A (wD h c st) sz) ((fun (u : SD) => wD h c u) u) t) (va_A (wD h c st) sz)) 0 0 (va_A (wD h c st) sz) := by
  refine zm (Qf := fun A => va_Qv (fun (u : SD) => u = m_traps st p0 p1) (fun u t => zw_at D vwCl A ((fun (u : SD) => wD h c u) u) t) A) (Zf := fun _ _ => True) (cc := c_D_traps) (nL := 3) (ret := none) (by decide) rfl (Nat.le_of_ble_eq_true rfl) ?_
  intro p e s m below meth c9 A H locs ls hx hb hml hown hts hr hlocks hA hK hP hD hS hZ hl
  have hl : lv_has ls 3 [(0, .ref (h 20)), (1, .int p0), (2, .int p1)] := hl
  have ht : ∀ w9 ∈ zT, w9.before _ s = true := fun w9 h9 => hts w9 (List.mem_cons_of_mem _ h9)
  refine lv_iload_n hx hb d_D_traps_0 rfl (lv_at hl 1 rfl) ?_
  refine zcut (X := SD) (G := fun v9 H locs ls => v9 = (if p0 = (0 : Int32) then st else (if (0 : Int32) ≤ (st.1 21) then st else (upd st.1 21 p1, st.2.1, st.2.2.1, st.2.2.2.1, st.2.2.2.2.1, st.2.2.2.2.2))) ∧ va_P D vwCl (wD h c v9) H ∧ va_D A (wD h c v9) ∧ va_S A s.heap H locs ∧ lv_has ls 3 [(0, .ref (h 20)), (1, .int p0), (2, .int p1)]) (fr := fun v9 ls => F0 m 16 ls []) (fun J_2 => ?_) (fun v9 H locs ls hG => ?_)
  · refine lv_if_eq (tgt := 16) hx hb d_D_traps_1 (by decide) (fun c_3 => ?_) (fun c_3 => ?_)
    · exact J_2 st _ _ _ ⟨by simp only [if_pos c_3], hP, hD, hS, hl⟩
    refine lv_aload_n hx hb d_D_traps_4 rfl (lv_at hl 0 rfl) ?_
    refine va_get (D := D) (ci := 6) (v := .int (st.1 21)) (C := "WindowMachineModel") (T := T_D) (N := 31) hx hb ht zi_D hown hK hP 0 rfl rfl 29 (by decide) (ht _ zw_883) (fun _ h9 => h9) rfl d_D_traps_5 ?_
    refine lv_if_ge (tgt := 16) hx hb d_D_traps_8 (by decide) (fun c_4 => ?_) (fun c_4 => ?_)
    · exact J_2 st _ _ _ ⟨by simp only [if_neg c_3, if_pos c_4], hP, hD, hS, hl⟩
    refine lv_aload_n hx hb d_D_traps_11 rfl (lv_at hl 0 rfl) ?_
    refine lv_iload_n hx hb d_D_traps_12 rfl (lv_at hl 2 rfl) ?_
    refine va_put (D := D) (ci := 6) (v := .int p1) (ty := .int) (C := "WindowMachineModel") (T := T_D) (N := 31) hx hb ht zi_D ty_D tyok_D nm_D hown hK hP hD hS 0 rfl rfl 29 (by decide) (ht _ zw_883) (fun _ h9 => h9) rfl (by decide +kernel) rfl rfl (Nat.le_of_ble_eq_true rfl) d_D_traps_13 (fun H locs hP hD hS => ?_)
    have hP : va_P D vwCl (wD h c (upd st.1 21 p1, st.2.1, st.2.2.1, st.2.2.2.1, st.2.2.2.2.1, st.2.2.2.2.2)) H := hP
    have hD : va_D A (wD h c (upd st.1 21 p1, st.2.1, st.2.2.1, st.2.2.2.1, st.2.2.2.2.1, st.2.2.2.2.2)) := hD
    exact J_2 (upd st.1 21 p1, st.2.1, st.2.2.1, st.2.2.2.1, st.2.2.2.2.1, st.2.2.2.2.2) _ _ _ ⟨by simp only [if_neg c_3, if_neg c_4], hP, hD, hS, hl⟩
  obtain ⟨u_1, rfl⟩ : ∃ z, z = v9 := ⟨_, rfl⟩
  obtain ⟨eu_1, hP, hD, hS, hl⟩ := hG
  exact zl_v (u := u_1) hx hb hr hlocks hS hP hD (by simp only [m_traps, ← eu_1]) d_D_traps_16
theorem d_D_wrong_0 : decode c_D_wrong 0 = .ok (.aload_n 0, 1) := by decide +kernel
theorem d_D_wrong_1 : decode c_D_wrong 1 = .ok (.getfield 202, 3) := by decide +kernel
theorem d_D_wrong_4 : decode c_D_wrong 4 = .ok (.ifCond .ge 8, 3) := by decide +kernel
theorem d_D_wrong_7 : decode c_D_wrong 7 = .ok (.aload_n 0, 1) := by decide +kernel
theorem d_D_wrong_8 : decode c_D_wrong 8 = .ok (.iload_n 1, 1) := by decide +kernel
theorem d_D_wrong_9 : decode c_D_wrong 9 = .ok (.putfield 202, 3) := by decide +kernel
theorem d_D_wrong_12 : decode c_D_wrong 12 = .ok (.return_, 1) := by decide +kernel
theorem kd_D_wrong : (y_D_wrong).cls = "WindowMachineModel" ∧ (y_D_wrong).cls ≠ "java/lang/invoke/MethodHandle" ∧ (y_D_wrong).cls ≠ "java/lang/invoke/VarHandle" ∧ (parseMethodDescriptor (y_D_wrong).desc).map (fun d => d.parameters.length) = some 1 := by decide +kernel
def m_wrong (st : SD) (p0 : Int32) : SD := (let u_1 := (if (0 : Int32) ≤ (st.1 2) then st else (upd st.1 2 p0, st.2.1, st.2.2.1, st.2.2.2.1, st.2.2.2.2.1, st.2.2.2.2.2)); u_1)
set_option maxHeartbeats 4000000 in
set_option maxRecDepth 100000 in
theorem mt_D_wrong (l : Launch) (D : va_G) (h : Nat → Nat) (c : Nat → ClassId) (sz : Nat) (st : SD) (p0 : Int32) : Met l y_D_wrong w_D_wrong ({ frames := 0, cells := 0, slots := 0, locals := 0 }) (va_Pc [.ref (h 20), .int p0] (zw_pre D vwCl [(c 21, .long), (c 22, .int), (c 23, .int), (c 24, .int), (c 25, .int), (c 26, .int), (c 27, .int), (c 28, .int)] sz (wD h c st) (fun _ => True))) (va_Qv (fun (u : SD) => u = m_wrong st p0) (fun u t => zw_at D vwCl (va_A (wD h c st) sz) ((fun (u : SD) => wD h c u) u) t) (va_A (wD h c st) sz)) 0 0 (va_A (wD h c st) sz) := by
  refine zm (Qf := fun A => va_Qv (fun (u : SD) => u = m_wrong st p0) (fun u t => zw_at D vwCl A ((fun (u : SD) => wD h c u) u) t) A) (Zf := fun _ _ => True) (cc := c_D_wrong) (nL := 2) (ret := none) (by decide) rfl (Nat.le_of_ble_eq_true rfl) ?_
  intro p e s m below meth c9 A H locs ls hx hb hml hown hts hr hlocks hA hK hP hD hS hZ hl
  have hl : lv_has ls 2 [(0, .ref (h 20)), (1, .int p0)] := hl
  have ht : ∀ w9 ∈ zT, w9.before _ s = true := fun w9 h9 => hts w9 (List.mem_cons_of_mem _ h9)
  refine lv_aload_n hx hb d_D_wrong_0 rfl (lv_at hl 0 rfl) ?_
  refine va_get (D := D) (ci := 6) (v := .int (st.1 2)) (C := "WindowMachineModel") (T := T_D) (N := 31) hx hb ht zi_D hown hK hP 0 rfl rfl 5 (by decide) (ht _ zw_859) (fun _ h9 => h9) rfl d_D_wrong_1 ?_
  refine zcut (X := SD) (G := fun v9 H locs ls => v9 = (if (0 : Int32) ≤ (st.1 2) then st else (upd st.1 2 p0, st.2.1, st.2.2.1, st.2.2.2.1, st.2.2.2.2.1, st.2.2.2.2.2)) ∧ va_P D vwCl (wD h c v9) H ∧ va_D A (wD h c v9) ∧ va_S A s.heap H locs ∧ lv_has ls 2 [(0, .ref (h 20)), (1, .int p0)]) (fr := fun v9 ls => F0 m 12 ls []) (fun J_2 => ?_) (fun v9 H locs ls hG => ?_)
  · refine lv_if_ge (tgt := 12) hx hb d_D_wrong_4 (by decide) (fun c_3 => ?_) (fun c_3 => ?_)
    · exact J_2 st _ _ _ ⟨by simp only [if_pos c_3], hP, hD, hS, hl⟩
    refine lv_aload_n hx hb d_D_wrong_7 rfl (lv_at hl 0 rfl) ?_
    refine lv_iload_n hx hb d_D_wrong_8 rfl (lv_at hl 1 rfl) ?_
    refine va_put (D := D) (ci := 6) (v := .int p0) (ty := .int) (C := "WindowMachineModel") (T := T_D) (N := 31) hx hb ht zi_D ty_D tyok_D nm_D hown hK hP hD hS 0 rfl rfl 5 (by decide) (ht _ zw_859) (fun _ h9 => h9) rfl (by decide +kernel) rfl rfl (Nat.le_of_ble_eq_true rfl) d_D_wrong_9 (fun H locs hP hD hS => ?_)
    have hP : va_P D vwCl (wD h c (upd st.1 2 p0, st.2.1, st.2.2.1, st.2.2.2.1, st.2.2.2.2.1, st.2.2.2.2.2)) H := hP
    have hD : va_D A (wD h c (upd st.1 2 p0, st.2.1, st.2.2.1, st.2.2.2.1, st.2.2.2.2.1, st.2.2.2.2.2)) := hD
    exact J_2 (upd st.1 2 p0, st.2.1, st.2.2.1, st.2.2.2.1, st.2.2.2.2.1, st.2.2.2.2.2) _ _ _ ⟨by simp only [if_neg c_3], hP, hD, hS, hl⟩
  obtain ⟨u_1, rfl⟩ : ∃ z, z = v9 := ⟨_, rfl⟩
  obtain ⟨eu_1, hP, hD, hS, hl⟩ := hG
  exact zl_v (u := u_1) hx hb hr hlocks hS hP hD (by simp only [m_wrong, ← eu_1]) d_D_wrong_12
theorem d_D_get_0 : decode c_D_get 0 = .ok (.iload_n 1, 1) := by decide +kernel
theorem d_D_get_1 : decode c_D_get 1 = .ok (.bipush 8, 2) := by decide +kernel
theorem d_D_get_3 : decode c_D_get 3 = .ok (.if_icmp .ge 10, 3) := by decide +kernel
theorem d_D_get_6 : decode c_D_get 6 = .ok (.aload_n 0, 1) := by decide +kernel
theorem d_D_get_7 : decode c_D_get 7 = .ok (.getfield 212, 3) := by decide +kernel
theorem d_D_get_10 : decode c_D_get 10 = .ok (.iload_n 1, 1) := by decide +kernel
theorem d_D_get_11 : decode c_D_get 11 = .ok (.iaload, 1) := by decide +kernel
theorem d_D_get_12 : decode c_D_get 12 = .ok (.ireturn, 1) := by decide +kernel
theorem d_D_get_13 : decode c_D_get 13 = .ok (.iload_n 1, 1) := by decide +kernel
theorem d_D_get_14 : decode c_D_get 14 = .ok (.bipush 16, 2) := by decide +kernel
theorem d_D_get_16 : decode c_D_get 16 = .ok (.if_icmp .ge 20, 3) := by decide +kernel
theorem d_D_get_19 : decode c_D_get 19 = .ok (.aload_n 0, 1) := by decide +kernel
theorem d_D_get_20 : decode c_D_get 20 = .ok (.getfield 215, 3) := by decide +kernel
theorem d_D_get_23 : decode c_D_get 23 = .ok (.bipush 8, 2) := by decide +kernel
theorem d_D_get_25 : decode c_D_get 25 = .ok (.iload_n 2, 1) := by decide +kernel
theorem d_D_get_26 : decode c_D_get 26 = .ok (.imul, 1) := by decide +kernel
theorem d_D_get_27 : decode c_D_get 27 = .ok (.iload_n 1, 1) := by decide +kernel
theorem d_D_get_28 : decode c_D_get 28 = .ok (.iadd, 1) := by decide +kernel
theorem d_D_get_29 : decode c_D_get 29 = .ok (.bipush 8, 2) := by decide +kernel
theorem d_D_get_31 : decode c_D_get 31 = .ok (.isub, 1) := by decide +kernel
theorem d_D_get_32 : decode c_D_get 32 = .ok (.iaload, 1) := by decide +kernel
theorem d_D_get_33 : decode c_D_get 33 = .ok (.goto 44, 3) := by decide +kernel
theorem d_D_get_36 : decode c_D_get 36 = .ok (.iload_n 1, 1) := by decide +kernel
theorem d_D_get_37 : decode c_D_get 37 = .ok (.bipush 24, 2) := by decide +kernel
theorem d_D_get_39 : decode c_D_get 39 = .ok (.if_icmp .ge 20, 3) := by decide +kernel
theorem d_D_get_42 : decode c_D_get 42 = .ok (.aload_n 0, 1) := by decide +kernel
theorem d_D_get_43 : decode c_D_get 43 = .ok (.getfield 218, 3) := by decide +kernel
theorem d_D_get_46 : decode c_D_get 46 = .ok (.bipush 8, 2) := by decide +kernel
theorem d_D_get_48 : decode c_D_get 48 = .ok (.iload_n 2, 1) := by decide +kernel
theorem d_D_get_49 : decode c_D_get 49 = .ok (.imul, 1) := by decide +kernel
theorem d_D_get_50 : decode c_D_get 50 = .ok (.iload_n 1, 1) := by decide +kernel
theorem d_D_get_51 : decode c_D_get 51 = .ok (.iadd, 1) := by decide +kernel
theorem d_D_get_52 : decode c_D_get 52 = .ok (.bipush 16, 2) := by decide +kernel
theorem d_D_get_54 : decode c_D_get 54 = .ok (.isub, 1) := by decide +kernel
theorem d_D_get_55 : decode c_D_get 55 = .ok (.iaload, 1) := by decide +kernel
theorem d_D_get_56 : decode c_D_get 56 = .ok (.goto 21, 3) := by decide +kernel
theorem d_D_get_59 : decode c_D_get 59 = .ok (.aload_n 0, 1) := by decide +kernel
theorem d_D_get_60 : decode c_D_get 60 = .ok (.getfield 215, 3) := by decide +kernel
theorem d_D_get_63 : decode c_D_get 63 = .ok (.bipush 8, 2) := by decide +kernel
theorem d_D_get_65 : decode c_D_get 65 = .ok (.iload_n 2, 1) := by decide +kernel
theorem d_D_get_66 : decode c_D_get 66 = .ok (.iconst 1, 1) := by decide +kernel
theorem d_D_get_67 : decode c_D_get 67 = .ok (.iadd, 1) := by decide +kernel
theorem d_D_get_68 : decode c_D_get 68 = .ok (.iconst 3, 1) := by decide +kernel
theorem d_D_get_69 : decode c_D_get 69 = .ok (.iand, 1) := by decide +kernel
theorem d_D_get_70 : decode c_D_get 70 = .ok (.imul, 1) := by decide +kernel
theorem d_D_get_71 : decode c_D_get 71 = .ok (.iload_n 1, 1) := by decide +kernel
theorem d_D_get_72 : decode c_D_get 72 = .ok (.iadd, 1) := by decide +kernel
theorem d_D_get_73 : decode c_D_get 73 = .ok (.bipush 24, 2) := by decide +kernel
theorem d_D_get_75 : decode c_D_get 75 = .ok (.isub, 1) := by decide +kernel
theorem d_D_get_76 : decode c_D_get 76 = .ok (.iaload, 1) := by decide +kernel
theorem d_D_get_77 : decode c_D_get 77 = .ok (.ireturn, 1) := by decide +kernel
theorem kd_D_get : (y_D_get).cls = "WindowMachineModel" ∧ (y_D_get).cls ≠ "java/lang/invoke/MethodHandle" ∧ (y_D_get).cls ≠ "java/lang/invoke/VarHandle" ∧ (parseMethodDescriptor (y_D_get).desc).map (fun d => d.parameters.length) = some 2 := by decide +kernel
def m_get (st : SD) (p0 : Int32) (p1 : Int32) : Int32 := (if (8 : Int32) ≤ p0 then (let x_2 := (if (16 : Int32) ≤ p0 then (if (24 : Int32) ≤ p0 then st.2.2.2.2.1 ((((8 : Int32) * ((p1 + (1 : Int32)) &&& (3 : Int32))) + p0) - (24 : Int32)).toNatClampNeg else st.2.2.2.2.2 ((((8 : Int32) * p1) + p0) - (16 : Int32)).toNatClampNeg) else st.2.2.2.2.1 ((((8 : Int32) * p1) + p0) - (8 : Int32)).toNatClampNeg); x_2) else st.2.2.2.1 p0.toNatClampNeg)
set_option maxHeartbeats 4000000 in
set_option maxRecDepth 100000 in
theorem mt_D_get (l : Launch) (D : va_G) (h : Nat → Nat) (c : Nat → ClassId) (sz : Nat) (st : SD) (p0 : Int32) (p1 : Int32) (hr9 : vp_in p0 32) (hw9 : vp_in p1 4) : Met l y_D_get w_D_get ({ frames := 0, cells := 0, slots := 0, locals := 0 }) (va_Pc [.ref (h 20), .int p0, .int p1] (zw_pre D vwCl [(c 21, .long), (c 22, .int), (c 23, .int), (c 24, .int), (c 25, .int), (c 26, .int), (c 27, .int), (c 28, .int)] sz (wD h c st) (fun _ => True))) (va_Qi (fun r (_ : Unit) => r = m_get st p0 p1) (fun u t => zw_at D vwCl (va_A (wD h c st) sz) ((fun (_ : Unit) => wD h c st) u) t) (va_A (wD h c st) sz)) 0 0 (va_A (wD h c st) sz) := by
  refine zm (Qf := fun A => va_Qi (fun r (_ : Unit) => r = m_get st p0 p1) (fun u t => zw_at D vwCl A ((fun (_ : Unit) => wD h c st) u) t) A) (Zf := fun _ _ => True) (cc := c_D_get) (nL := 3) (ret := (some .int)) (by decide) rfl (Nat.le_of_ble_eq_true rfl) ?_
  intro p e s m below meth c9 A H locs ls hx hb hml hown hts hr hlocks hA hK hP hD hS hZ hl
  have hl : lv_has ls 3 [(0, .ref (h 20)), (1, .int p0), (2, .int p1)] := hl
  have ht : ∀ w9 ∈ zT, w9.before _ s = true := fun w9 h9 => hts w9 (List.mem_cons_of_mem _ h9)
  refine lv_iload_n hx hb d_D_get_0 rfl (lv_at hl 1 rfl) ?_
  refine lv_bipush (v := (8 : Int32)) hx hb d_D_get_1 (by decide) ?_
  refine lv_icmp_ge (tgt := 13) hx hb d_D_get_3 (by decide) (fun c_1 => ?_) (fun c_1 => ?_)
  · refine lv_iload_n hx hb d_D_get_13 rfl (lv_at hl 1 rfl) ?_
    refine lv_bipush (v := (16 : Int32)) hx hb d_D_get_14 (by decide) ?_
    refine zcut (X := Int32) (G := fun v9 H locs ls => v9 = (if (16 : Int32) ≤ p0 then (if (24 : Int32) ≤ p0 then st.2.2.2.2.1 ((((8 : Int32) * ((p1 + (1 : Int32)) &&& (3 : Int32))) + p0) - (24 : Int32)).toNatClampNeg else st.2.2.2.2.2 ((((8 : Int32) * p1) + p0) - (16 : Int32)).toNatClampNeg) else st.2.2.2.2.1 ((((8 : Int32) * p1) + p0) - (8 : Int32)).toNatClampNeg) ∧ va_P D vwCl (wD h c st) H ∧ va_D A (wD h c st) ∧ va_S A s.heap H locs ∧ lv_has ls 3 [(0, .ref (h 20)), (1, .int p0), (2, .int p1)]) (fr := fun v9 ls => F0 m 77 ls [.int v9]) (fun J_3 => ?_) (fun v9 H locs ls hG => ?_)
    · refine lv_icmp_ge (tgt := 36) hx hb d_D_get_16 (by decide) (fun c_4 => ?_) (fun c_4 => ?_)
      · refine lv_iload_n hx hb d_D_get_36 rfl (lv_at hl 1 rfl) ?_
        refine lv_bipush (v := (24 : Int32)) hx hb d_D_get_37 (by decide) ?_
        refine lv_icmp_ge (tgt := 59) hx hb d_D_get_39 (by decide) (fun c_5 => ?_) (fun c_5 => ?_)
        · refine lv_aload_n hx hb d_D_get_59 rfl (lv_at hl 0 rfl) ?_
          refine va_get (D := D) (ci := 6) (v := .ref (h 27)) (C := "WindowMachineModel") (T := T_D) (N := 31) hx hb ht zi_D hown hK hP 0 rfl rfl 10 (by decide) (ht _ zw_864) (fun _ h9 => h9) rfl d_D_get_60 ?_
          refine lv_bipush (v := (8 : Int32)) hx hb d_D_get_63 (by decide) ?_
          refine lv_iload_n hx hb d_D_get_65 rfl (lv_at hl 2 rfl) ?_
          refine lv_iconst (v := (1 : Int32)) hx hb d_D_get_66 (by decide) ?_
          refine lv_iadd hx hb d_D_get_67 ?_
          refine lv_iconst (v := (3 : Int32)) hx hb d_D_get_68 (by decide) ?_
          refine lv_iand hx hb d_D_get_69 ?_
          refine lv_imul hx hb d_D_get_70 ?_
          refine lv_iload_n hx hb d_D_get_71 rfl (lv_at hl 1 rfl) ?_
          refine lv_iadd hx hb d_D_get_72 ?_
          refine lv_bipush (v := (24 : Int32)) hx hb d_D_get_73 (by decide) ?_
          refine lv_isub hx hb d_D_get_75 ?_
          refine va_iald hx hb hK hP 7 6 rfl rfl (g_o2 hr9 hw9 c_5) d_D_get_76 ?_
          exact J_3 (st.2.2.2.2.1 ((((8 : Int32) * ((p1 + (1 : Int32)) &&& (3 : Int32))) + p0) - (24 : Int32)).toNatClampNeg) _ _ _ ⟨by simp only [if_pos c_4, if_pos c_5], hP, hD, hS, hl⟩
        refine lv_aload_n hx hb d_D_get_42 rfl (lv_at hl 0 rfl) ?_
        refine va_get (D := D) (ci := 6) (v := .ref (h 28)) (C := "WindowMachineModel") (T := T_D) (N := 31) hx hb ht zi_D hown hK hP 0 rfl rfl 11 (by decide) (ht _ zw_865) (fun _ h9 => h9) rfl d_D_get_43 ?_
        refine lv_bipush (v := (8 : Int32)) hx hb d_D_get_46 (by decide) ?_
        refine lv_iload_n hx hb d_D_get_48 rfl (lv_at hl 2 rfl) ?_
        refine lv_imul hx hb d_D_get_49 ?_
        refine lv_iload_n hx hb d_D_get_50 rfl (lv_at hl 1 rfl) ?_
        refine lv_iadd hx hb d_D_get_51 ?_
        refine lv_bipush (v := (16 : Int32)) hx hb d_D_get_52 (by decide) ?_
        refine lv_isub hx hb d_D_get_54 ?_
        refine va_iald hx hb hK hP 8 7 rfl rfl (g_lo hr9 hw9 c_4 c_5) d_D_get_55 ?_
        refine lv_goto (tgt := 77) hx hb d_D_get_56 (by decide) ?_
        exact J_3 (st.2.2.2.2.2 ((((8 : Int32) * p1) + p0) - (16 : Int32)).toNatClampNeg) _ _ _ ⟨by simp only [if_pos c_4, if_neg c_5], hP, hD, hS, hl⟩
      refine lv_aload_n hx hb d_D_get_19 rfl (lv_at hl 0 rfl) ?_
      refine va_get (D := D) (ci := 6) (v := .ref (h 27)) (C := "WindowMachineModel") (T := T_D) (N := 31) hx hb ht zi_D hown hK hP 0 rfl rfl 10 (by decide) (ht _ zw_864) (fun _ h9 => h9) rfl d_D_get_20 ?_
      refine lv_bipush (v := (8 : Int32)) hx hb d_D_get_23 (by decide) ?_
      refine lv_iload_n hx hb d_D_get_25 rfl (lv_at hl 2 rfl) ?_
      refine lv_imul hx hb d_D_get_26 ?_
      refine lv_iload_n hx hb d_D_get_27 rfl (lv_at hl 1 rfl) ?_
      refine lv_iadd hx hb d_D_get_28 ?_
      refine lv_bipush (v := (8 : Int32)) hx hb d_D_get_29 (by decide) ?_
      refine lv_isub hx hb d_D_get_31 ?_
      refine va_iald hx hb hK hP 7 6 rfl rfl (g_o1 hr9 hw9 c_1 c_4) d_D_get_32 ?_
      refine lv_goto (tgt := 77) hx hb d_D_get_33 (by decide) ?_
      exact J_3 (st.2.2.2.2.1 ((((8 : Int32) * p1) + p0) - (8 : Int32)).toNatClampNeg) _ _ _ ⟨by simp only [if_neg c_4], hP, hD, hS, hl⟩
    obtain ⟨x_2, rfl⟩ : ∃ z, z = v9 := ⟨_, rfl⟩
    obtain ⟨ex_2, hP, hD, hS, hl⟩ := hG
    exact zl_i (u := ()) hx hb hr hlocks hS hP hD (by simp only [m_get, ← ex_2, if_pos c_1]) d_D_get_77
  refine lv_aload_n hx hb d_D_get_6 rfl (lv_at hl 0 rfl) ?_
  refine va_get (D := D) (ci := 6) (v := .ref (h 26)) (C := "WindowMachineModel") (T := T_D) (N := 31) hx hb ht zi_D hown hK hP 0 rfl rfl 9 (by decide) (ht _ zw_863) (fun _ h9 => h9) rfl d_D_get_7 ?_
  refine lv_iload_n hx hb d_D_get_10 rfl (lv_at hl 1 rfl) ?_
  refine va_iald hx hb hK hP 6 5 rfl rfl (g_gl hr9 c_1) d_D_get_11 ?_
  exact zl_i (u := ()) hx hb hr hlocks hS hP hD (by simp only [m_get, if_neg c_1]) d_D_get_12
theorem d_D_gives_0 : decode c_D_gives 0 = .ok (.iload_n 1, 1) := by decide +kernel
theorem d_D_gives_1 : decode c_D_gives 1 = .ok (.ifCond .ne 4, 3) := by decide +kernel
theorem d_D_gives_4 : decode c_D_gives 4 = .ok (.return_, 1) := by decide +kernel
theorem d_D_gives_5 : decode c_D_gives 5 = .ok (.iload_n 1, 1) := by decide +kernel
theorem d_D_gives_6 : decode c_D_gives 6 = .ok (.bipush 8, 2) := by decide +kernel
theorem d_D_gives_8 : decode c_D_gives 8 = .ok (.if_icmp .ge 13, 3) := by decide +kernel
theorem d_D_gives_11 : decode c_D_gives 11 = .ok (.aload_n 0, 1) := by decide +kernel
theorem d_D_gives_12 : decode c_D_gives 12 = .ok (.getfield 212, 3) := by decide +kernel
theorem d_D_gives_15 : decode c_D_gives 15 = .ok (.iload_n 1, 1) := by decide +kernel
theorem d_D_gives_16 : decode c_D_gives 16 = .ok (.iload_n 3, 1) := by decide +kernel
theorem d_D_gives_17 : decode c_D_gives 17 = .ok (.iastore, 1) := by decide +kernel
theorem d_D_gives_18 : decode c_D_gives 18 = .ok (.goto 70, 3) := by decide +kernel
theorem d_D_gives_21 : decode c_D_gives 21 = .ok (.iload_n 1, 1) := by decide +kernel
theorem d_D_gives_22 : decode c_D_gives 22 = .ok (.bipush 16, 2) := by decide +kernel
theorem d_D_gives_24 : decode c_D_gives 24 = .ok (.if_icmp .ge 21, 3) := by decide +kernel
theorem d_D_gives_27 : decode c_D_gives 27 = .ok (.aload_n 0, 1) := by decide +kernel
theorem d_D_gives_28 : decode c_D_gives 28 = .ok (.getfield 215, 3) := by decide +kernel
theorem d_D_gives_31 : decode c_D_gives 31 = .ok (.bipush 8, 2) := by decide +kernel
theorem d_D_gives_33 : decode c_D_gives 33 = .ok (.iload_n 2, 1) := by decide +kernel
theorem d_D_gives_34 : decode c_D_gives 34 = .ok (.imul, 1) := by decide +kernel
theorem d_D_gives_35 : decode c_D_gives 35 = .ok (.iload_n 1, 1) := by decide +kernel
theorem d_D_gives_36 : decode c_D_gives 36 = .ok (.iadd, 1) := by decide +kernel
theorem d_D_gives_37 : decode c_D_gives 37 = .ok (.bipush 8, 2) := by decide +kernel
theorem d_D_gives_39 : decode c_D_gives 39 = .ok (.isub, 1) := by decide +kernel
theorem d_D_gives_40 : decode c_D_gives 40 = .ok (.iload_n 3, 1) := by decide +kernel
theorem d_D_gives_41 : decode c_D_gives 41 = .ok (.iastore, 1) := by decide +kernel
theorem d_D_gives_42 : decode c_D_gives 42 = .ok (.goto 46, 3) := by decide +kernel
theorem d_D_gives_45 : decode c_D_gives 45 = .ok (.iload_n 1, 1) := by decide +kernel
theorem d_D_gives_46 : decode c_D_gives 46 = .ok (.bipush 24, 2) := by decide +kernel
theorem d_D_gives_48 : decode c_D_gives 48 = .ok (.if_icmp .ge 21, 3) := by decide +kernel
theorem d_D_gives_51 : decode c_D_gives 51 = .ok (.aload_n 0, 1) := by decide +kernel
theorem d_D_gives_52 : decode c_D_gives 52 = .ok (.getfield 218, 3) := by decide +kernel
theorem d_D_gives_55 : decode c_D_gives 55 = .ok (.bipush 8, 2) := by decide +kernel
theorem d_D_gives_57 : decode c_D_gives 57 = .ok (.iload_n 2, 1) := by decide +kernel
theorem d_D_gives_58 : decode c_D_gives 58 = .ok (.imul, 1) := by decide +kernel
theorem d_D_gives_59 : decode c_D_gives 59 = .ok (.iload_n 1, 1) := by decide +kernel
theorem d_D_gives_60 : decode c_D_gives 60 = .ok (.iadd, 1) := by decide +kernel
theorem d_D_gives_61 : decode c_D_gives 61 = .ok (.bipush 16, 2) := by decide +kernel
theorem d_D_gives_63 : decode c_D_gives 63 = .ok (.isub, 1) := by decide +kernel
theorem d_D_gives_64 : decode c_D_gives 64 = .ok (.iload_n 3, 1) := by decide +kernel
theorem d_D_gives_65 : decode c_D_gives 65 = .ok (.iastore, 1) := by decide +kernel
theorem d_D_gives_66 : decode c_D_gives 66 = .ok (.goto 22, 3) := by decide +kernel
theorem d_D_gives_69 : decode c_D_gives 69 = .ok (.aload_n 0, 1) := by decide +kernel
theorem d_D_gives_70 : decode c_D_gives 70 = .ok (.getfield 215, 3) := by decide +kernel
theorem d_D_gives_73 : decode c_D_gives 73 = .ok (.bipush 8, 2) := by decide +kernel
theorem d_D_gives_75 : decode c_D_gives 75 = .ok (.iload_n 2, 1) := by decide +kernel
theorem d_D_gives_76 : decode c_D_gives 76 = .ok (.iconst 1, 1) := by decide +kernel
theorem d_D_gives_77 : decode c_D_gives 77 = .ok (.iadd, 1) := by decide +kernel
theorem d_D_gives_78 : decode c_D_gives 78 = .ok (.iconst 3, 1) := by decide +kernel
theorem d_D_gives_79 : decode c_D_gives 79 = .ok (.iand, 1) := by decide +kernel
theorem d_D_gives_80 : decode c_D_gives 80 = .ok (.imul, 1) := by decide +kernel
theorem d_D_gives_81 : decode c_D_gives 81 = .ok (.iload_n 1, 1) := by decide +kernel
theorem d_D_gives_82 : decode c_D_gives 82 = .ok (.iadd, 1) := by decide +kernel
theorem d_D_gives_83 : decode c_D_gives 83 = .ok (.bipush 24, 2) := by decide +kernel
theorem d_D_gives_85 : decode c_D_gives 85 = .ok (.isub, 1) := by decide +kernel
theorem d_D_gives_86 : decode c_D_gives 86 = .ok (.iload_n 3, 1) := by decide +kernel
theorem d_D_gives_87 : decode c_D_gives 87 = .ok (.iastore, 1) := by decide +kernel
theorem d_D_gives_88 : decode c_D_gives 88 = .ok (.return_, 1) := by decide +kernel
theorem kd_D_gives : (y_D_gives).cls = "WindowMachineModel" ∧ (y_D_gives).cls ≠ "java/lang/invoke/MethodHandle" ∧ (y_D_gives).cls ≠ "java/lang/invoke/VarHandle" ∧ (parseMethodDescriptor (y_D_gives).desc).map (fun d => d.parameters.length) = some 3 := by decide +kernel
def m_gives (st : SD) (p0 : Int32) (p1 : Int32) (p2 : Int32) : SD := (if p0 = (0 : Int32) then st else (let u_2 := (if (8 : Int32) ≤ p0 then (if (16 : Int32) ≤ p0 then (if (24 : Int32) ≤ p0 then (st.1, st.2.1, st.2.2.1, st.2.2.2.1, upd st.2.2.2.2.1 ((((8 : Int32) * ((p1 + (1 : Int32)) &&& (3 : Int32))) + p0) - (24 : Int32)).toNatClampNeg p2, st.2.2.2.2.2) else (st.1, st.2.1, st.2.2.1, st.2.2.2.1, st.2.2.2.2.1, upd st.2.2.2.2.2 ((((8 : Int32) * p1) + p0) - (16 : Int32)).toNatClampNeg p2)) else (st.1, st.2.1, st.2.2.1, st.2.2.2.1, upd st.2.2.2.2.1 ((((8 : Int32) * p1) + p0) - (8 : Int32)).toNatClampNeg p2, st.2.2.2.2.2)) else (st.1, st.2.1, st.2.2.1, upd st.2.2.2.1 p0.toNatClampNeg p2, st.2.2.2.2.1, st.2.2.2.2.2)); u_2))
set_option maxHeartbeats 4000000 in
set_option maxRecDepth 100000 in
theorem mt_D_gives (l : Launch) (D : va_G) (h : Nat → Nat) (c : Nat → ClassId) (sz : Nat) (st : SD) (p0 : Int32) (p1 : Int32) (p2 : Int32) (hr9 : vp_in p0 32) (hw9 : vp_in p1 4) : Met l y_D_gives w_D_gives ({ frames := 0, cells := 0, slots := 0, locals := 0 }) (va_Pc [.ref (h 20), .int p0, .int p1, .int p2] (zw_pre D vwCl [(c 21, .long), (c 22, .int), (c 23, .int), (c 24, .int), (c 25, .int), (c 26, .int), (c 27, .int), (c 28, .int)] sz (wD h c st) (fun _ => True))) (va_Qv (fun (u : SD) => u = m_gives st p0 p1 p2) (fun u t => zw_at D vwCl (va_A (wD h c st) sz) ((fun (u : SD) => wD h c u) u) t) (va_A (wD h c st) sz)) 0 0 (va_A (wD h c st) sz) := by
  refine zm (Qf := fun A => va_Qv (fun (u : SD) => u = m_gives st p0 p1 p2) (fun u t => zw_at D vwCl A ((fun (u : SD) => wD h c u) u) t) A) (Zf := fun _ _ => True) (cc := c_D_gives) (nL := 4) (ret := none) (by decide) rfl (Nat.le_of_ble_eq_true rfl) ?_
  intro p e s m below meth c9 A H locs ls hx hb hml hown hts hr hlocks hA hK hP hD hS hZ hl
  have hl : lv_has ls 4 [(0, .ref (h 20)), (1, .int p0), (2, .int p1), (3, .int p2)] := hl
  have ht : ∀ w9 ∈ zT, w9.before _ s = true := fun w9 h9 => hts w9 (List.mem_cons_of_mem _ h9)
  refine lv_iload_n hx hb d_D_gives_0 rfl (lv_at hl 1 rfl) ?_
  refine lv_if_ne (tgt := 5) hx hb d_D_gives_1 (by decide) (fun c_1 => ?_) (fun c_1 => ?_)
  · refine lv_iload_n hx hb d_D_gives_5 rfl (lv_at hl 1 rfl) ?_
    refine lv_bipush (v := (8 : Int32)) hx hb d_D_gives_6 (by decide) ?_
    refine zcut (X := SD) (G := fun v9 H locs ls => v9 = (if (8 : Int32) ≤ p0 then (if (16 : Int32) ≤ p0 then (if (24 : Int32) ≤ p0 then (st.1, st.2.1, st.2.2.1, st.2.2.2.1, upd st.2.2.2.2.1 ((((8 : Int32) * ((p1 + (1 : Int32)) &&& (3 : Int32))) + p0) - (24 : Int32)).toNatClampNeg p2, st.2.2.2.2.2) else (st.1, st.2.1, st.2.2.1, st.2.2.2.1, st.2.2.2.2.1, upd st.2.2.2.2.2 ((((8 : Int32) * p1) + p0) - (16 : Int32)).toNatClampNeg p2)) else (st.1, st.2.1, st.2.2.1, st.2.2.2.1, upd st.2.2.2.2.1 ((((8 : Int32) * p1) + p0) - (8 : Int32)).toNatClampNeg p2, st.2.2.2.2.2)) else (st.1, st.2.1, st.2.2.1, upd st.2.2.2.1 p0.toNatClampNeg p2, st.2.2.2.2.1, st.2.2.2.2.2)) ∧ va_P D vwCl (wD h c v9) H ∧ va_D A (wD h c v9) ∧ va_S A s.heap H locs ∧ lv_has ls 4 [(0, .ref (h 20)), (1, .int p0), (2, .int p1), (3, .int p2)]) (fr := fun v9 ls => F0 m 88 ls []) (fun J_3 => ?_) (fun v9 H locs ls hG => ?_)
    · refine lv_icmp_ge (tgt := 21) hx hb d_D_gives_8 (by decide) (fun c_4 => ?_) (fun c_4 => ?_)
      · refine lv_iload_n hx hb d_D_gives_21 rfl (lv_at hl 1 rfl) ?_
        refine lv_bipush (v := (16 : Int32)) hx hb d_D_gives_22 (by decide) ?_
        refine lv_icmp_ge (tgt := 45) hx hb d_D_gives_24 (by decide) (fun c_5 => ?_) (fun c_5 => ?_)
        · refine lv_iload_n hx hb d_D_gives_45 rfl (lv_at hl 1 rfl) ?_
          refine lv_bipush (v := (24 : Int32)) hx hb d_D_gives_46 (by decide) ?_
          refine lv_icmp_ge (tgt := 69) hx hb d_D_gives_48 (by decide) (fun c_6 => ?_) (fun c_6 => ?_)
          · refine lv_aload_n hx hb d_D_gives_69 rfl (lv_at hl 0 rfl) ?_
            refine va_get (D := D) (ci := 6) (v := .ref (h 27)) (C := "WindowMachineModel") (T := T_D) (N := 31) hx hb ht zi_D hown hK hP 0 rfl rfl 10 (by decide) (ht _ zw_864) (fun _ h9 => h9) rfl d_D_gives_70 ?_
            refine lv_bipush (v := (8 : Int32)) hx hb d_D_gives_73 (by decide) ?_
            refine lv_iload_n hx hb d_D_gives_75 rfl (lv_at hl 2 rfl) ?_
            refine lv_iconst (v := (1 : Int32)) hx hb d_D_gives_76 (by decide) ?_
            refine lv_iadd hx hb d_D_gives_77 ?_
            refine lv_iconst (v := (3 : Int32)) hx hb d_D_gives_78 (by decide) ?_
            refine lv_iand hx hb d_D_gives_79 ?_
            refine lv_imul hx hb d_D_gives_80 ?_
            refine lv_iload_n hx hb d_D_gives_81 rfl (lv_at hl 1 rfl) ?_
            refine lv_iadd hx hb d_D_gives_82 ?_
            refine lv_bipush (v := (24 : Int32)) hx hb d_D_gives_83 (by decide) ?_
            refine lv_isub hx hb d_D_gives_85 ?_
            refine lv_iload_n hx hb d_D_gives_86 rfl (lv_at hl 3 rfl) ?_
            refine va_iast hx hb hK hP hD hS 7 6 rfl rfl (g_o2 hr9 hw9 c_6) d_D_gives_87 (fun H locs hP hD hS => ?_)
            have hP : va_P D vwCl (wD h c (st.1, st.2.1, st.2.2.1, st.2.2.2.1, upd st.2.2.2.2.1 ((((8 : Int32) * ((p1 + (1 : Int32)) &&& (3 : Int32))) + p0) - (24 : Int32)).toNatClampNeg p2, st.2.2.2.2.2)) H := hP
            have hD : va_D A (wD h c (st.1, st.2.1, st.2.2.1, st.2.2.2.1, upd st.2.2.2.2.1 ((((8 : Int32) * ((p1 + (1 : Int32)) &&& (3 : Int32))) + p0) - (24 : Int32)).toNatClampNeg p2, st.2.2.2.2.2)) := hD
            exact J_3 (st.1, st.2.1, st.2.2.1, st.2.2.2.1, upd st.2.2.2.2.1 ((((8 : Int32) * ((p1 + (1 : Int32)) &&& (3 : Int32))) + p0) - (24 : Int32)).toNatClampNeg p2, st.2.2.2.2.2) _ _ _ ⟨by simp only [if_pos c_4, if_pos c_5, if_pos c_6], hP, hD, hS, hl⟩
          refine lv_aload_n hx hb d_D_gives_51 rfl (lv_at hl 0 rfl) ?_
          refine va_get (D := D) (ci := 6) (v := .ref (h 28)) (C := "WindowMachineModel") (T := T_D) (N := 31) hx hb ht zi_D hown hK hP 0 rfl rfl 11 (by decide) (ht _ zw_865) (fun _ h9 => h9) rfl d_D_gives_52 ?_
          refine lv_bipush (v := (8 : Int32)) hx hb d_D_gives_55 (by decide) ?_
          refine lv_iload_n hx hb d_D_gives_57 rfl (lv_at hl 2 rfl) ?_
          refine lv_imul hx hb d_D_gives_58 ?_
          refine lv_iload_n hx hb d_D_gives_59 rfl (lv_at hl 1 rfl) ?_
          refine lv_iadd hx hb d_D_gives_60 ?_
          refine lv_bipush (v := (16 : Int32)) hx hb d_D_gives_61 (by decide) ?_
          refine lv_isub hx hb d_D_gives_63 ?_
          refine lv_iload_n hx hb d_D_gives_64 rfl (lv_at hl 3 rfl) ?_
          refine va_iast hx hb hK hP hD hS 8 7 rfl rfl (g_lo hr9 hw9 c_5 c_6) d_D_gives_65 (fun H locs hP hD hS => ?_)
          have hP : va_P D vwCl (wD h c (st.1, st.2.1, st.2.2.1, st.2.2.2.1, st.2.2.2.2.1, upd st.2.2.2.2.2 ((((8 : Int32) * p1) + p0) - (16 : Int32)).toNatClampNeg p2)) H := hP
          have hD : va_D A (wD h c (st.1, st.2.1, st.2.2.1, st.2.2.2.1, st.2.2.2.2.1, upd st.2.2.2.2.2 ((((8 : Int32) * p1) + p0) - (16 : Int32)).toNatClampNeg p2)) := hD
          refine lv_goto (tgt := 88) hx hb d_D_gives_66 (by decide) ?_
          exact J_3 (st.1, st.2.1, st.2.2.1, st.2.2.2.1, st.2.2.2.2.1, upd st.2.2.2.2.2 ((((8 : Int32) * p1) + p0) - (16 : Int32)).toNatClampNeg p2) _ _ _ ⟨by simp only [if_pos c_4, if_pos c_5, if_neg c_6], hP, hD, hS, hl⟩
        refine lv_aload_n hx hb d_D_gives_27 rfl (lv_at hl 0 rfl) ?_
        refine va_get (D := D) (ci := 6) (v := .ref (h 27)) (C := "WindowMachineModel") (T := T_D) (N := 31) hx hb ht zi_D hown hK hP 0 rfl rfl 10 (by decide) (ht _ zw_864) (fun _ h9 => h9) rfl d_D_gives_28 ?_
        refine lv_bipush (v := (8 : Int32)) hx hb d_D_gives_31 (by decide) ?_
        refine lv_iload_n hx hb d_D_gives_33 rfl (lv_at hl 2 rfl) ?_
        refine lv_imul hx hb d_D_gives_34 ?_
        refine lv_iload_n hx hb d_D_gives_35 rfl (lv_at hl 1 rfl) ?_
        refine lv_iadd hx hb d_D_gives_36 ?_
        refine lv_bipush (v := (8 : Int32)) hx hb d_D_gives_37 (by decide) ?_
        refine lv_isub hx hb d_D_gives_39 ?_
        refine lv_iload_n hx hb d_D_gives_40 rfl (lv_at hl 3 rfl) ?_
        refine va_iast hx hb hK hP hD hS 7 6 rfl rfl (g_o1 hr9 hw9 c_4 c_5) d_D_gives_41 (fun H locs hP hD hS => ?_)
        have hP : va_P D vwCl (wD h c (st.1, st.2.1, st.2.2.1, st.2.2.2.1, upd st.2.2.2.2.1 ((((8 : Int32) * p1) + p0) - (8 : Int32)).toNatClampNeg p2, st.2.2.2.2.2)) H := hP
        have hD : va_D A (wD h c (st.1, st.2.1, st.2.2.1, st.2.2.2.1, upd st.2.2.2.2.1 ((((8 : Int32) * p1) + p0) - (8 : Int32)).toNatClampNeg p2, st.2.2.2.2.2)) := hD
        refine lv_goto (tgt := 88) hx hb d_D_gives_42 (by decide) ?_
        exact J_3 (st.1, st.2.1, st.2.2.1, st.2.2.2.1, upd st.2.2.2.2.1 ((((8 : Int32) * p1) + p0) - (8 : Int32)).toNatClampNeg p2, st.2.2.2.2.2) _ _ _ ⟨by simp only [if_pos c_4, if_neg c_5], hP, hD, hS, hl⟩
      refine lv_aload_n hx hb d_D_gives_11 rfl (lv_at hl 0 rfl) ?_
      refine va_get (D := D) (ci := 6) (v := .ref (h 26)) (C := "WindowMachineModel") (T := T_D) (N := 31) hx hb ht zi_D hown hK hP 0 rfl rfl 9 (by decide) (ht _ zw_863) (fun _ h9 => h9) rfl d_D_gives_12 ?_
      refine lv_iload_n hx hb d_D_gives_15 rfl (lv_at hl 1 rfl) ?_
      refine lv_iload_n hx hb d_D_gives_16 rfl (lv_at hl 3 rfl) ?_
      refine va_iast hx hb hK hP hD hS 6 5 rfl rfl (g_gl hr9 c_4) d_D_gives_17 (fun H locs hP hD hS => ?_)
      have hP : va_P D vwCl (wD h c (st.1, st.2.1, st.2.2.1, upd st.2.2.2.1 p0.toNatClampNeg p2, st.2.2.2.2.1, st.2.2.2.2.2)) H := hP
      have hD : va_D A (wD h c (st.1, st.2.1, st.2.2.1, upd st.2.2.2.1 p0.toNatClampNeg p2, st.2.2.2.2.1, st.2.2.2.2.2)) := hD
      refine lv_goto (tgt := 88) hx hb d_D_gives_18 (by decide) ?_
      exact J_3 (st.1, st.2.1, st.2.2.1, upd st.2.2.2.1 p0.toNatClampNeg p2, st.2.2.2.2.1, st.2.2.2.2.2) _ _ _ ⟨by simp only [if_neg c_4], hP, hD, hS, hl⟩
    obtain ⟨u_2, rfl⟩ : ∃ z, z = v9 := ⟨_, rfl⟩
    obtain ⟨eu_2, hP, hD, hS, hl⟩ := hG
    exact zl_v (u := u_2) hx hb hr hlocks hS hP hD (by simp only [m_gives, ← eu_2, if_neg c_1]) d_D_gives_88
  exact zl_v (u := st) hx hb hr hlocks hS hP hD (by simp only [m_gives, if_pos c_1]) d_D_gives_4
theorem d_D_holds_0 : decode c_D_holds 0 = .ok (.aload_n 0, 1) := by decide +kernel
theorem d_D_holds_1 : decode c_D_holds 1 = .ok (.getfield 255, 3) := by decide +kernel
theorem d_D_holds_4 : decode c_D_holds 4 = .ok (.aload_n 0, 1) := by decide +kernel
theorem d_D_holds_5 : decode c_D_holds 5 = .ok (.getfield 262, 3) := by decide +kernel
theorem d_D_holds_8 : decode c_D_holds 8 = .ok (.if_icmp .eq 7, 3) := by decide +kernel
theorem d_D_holds_11 : decode c_D_holds 11 = .ok (.iconst 1, 1) := by decide +kernel
theorem d_D_holds_12 : decode c_D_holds 12 = .ok (.goto 4, 3) := by decide +kernel
theorem d_D_holds_15 : decode c_D_holds 15 = .ok (.iconst 0, 1) := by decide +kernel
theorem d_D_holds_16 : decode c_D_holds 16 = .ok (.istore_n 2, 1) := by decide +kernel
theorem d_D_holds_17 : decode c_D_holds 17 = .ok (.iload_n 1, 1) := by decide +kernel
theorem d_D_holds_18 : decode c_D_holds 18 = .ok (.bipush 7, 2) := by decide +kernel
theorem d_D_holds_20 : decode c_D_holds 20 = .ok (.iand, 1) := by decide +kernel
theorem d_D_holds_21 : decode c_D_holds 21 = .ok (.tableswitch 120 0 6 #[43, 48, 56, 76, 81, 104, 112], 43) := by decide +kernel
theorem d_D_holds_64 : decode c_D_holds 64 = .ok (.iconst 0, 1) := by decide +kernel
theorem d_D_holds_65 : decode c_D_holds 65 = .ok (.istore_n 3, 1) := by decide +kernel
theorem d_D_holds_66 : decode c_D_holds 66 = .ok (.goto 80, 3) := by decide +kernel
theorem d_D_holds_69 : decode c_D_holds 69 = .ok (.aload_n 0, 1) := by decide +kernel
theorem d_D_holds_70 : decode c_D_holds 70 = .ok (.getfield 259, 3) := by decide +kernel
theorem d_D_holds_73 : decode c_D_holds 73 = .ok (.istore_n 3, 1) := by decide +kernel
theorem d_D_holds_74 : decode c_D_holds 74 = .ok (.goto 72, 3) := by decide +kernel
theorem d_D_holds_77 : decode c_D_holds 77 = .ok (.aload_n 0, 1) := by decide +kernel
theorem d_D_holds_78 : decode c_D_holds 78 = .ok (.getfield 259, 3) := by decide +kernel
theorem d_D_holds_81 : decode c_D_holds 81 = .ok (.ifCond .ne 7, 3) := by decide +kernel
theorem d_D_holds_84 : decode c_D_holds 84 = .ok (.iload_n 2, 1) := by decide +kernel
theorem d_D_holds_85 : decode c_D_holds 85 = .ok (.ifCond .eq 7, 3) := by decide +kernel
theorem d_D_holds_88 : decode c_D_holds 88 = .ok (.iconst 1, 1) := by decide +kernel
theorem d_D_holds_89 : decode c_D_holds 89 = .ok (.goto 4, 3) := by decide +kernel
theorem d_D_holds_92 : decode c_D_holds 92 = .ok (.iconst 0, 1) := by decide +kernel
theorem d_D_holds_93 : decode c_D_holds 93 = .ok (.istore_n 3, 1) := by decide +kernel
theorem d_D_holds_94 : decode c_D_holds 94 = .ok (.goto 52, 3) := by decide +kernel
theorem d_D_holds_97 : decode c_D_holds 97 = .ok (.iload_n 2, 1) := by decide +kernel
theorem d_D_holds_98 : decode c_D_holds 98 = .ok (.istore_n 3, 1) := by decide +kernel
theorem d_D_holds_99 : decode c_D_holds 99 = .ok (.goto 47, 3) := by decide +kernel
theorem d_D_holds_102 : decode c_D_holds 102 = .ok (.aload_n 0, 1) := by decide +kernel
theorem d_D_holds_103 : decode c_D_holds 103 = .ok (.getfield 265, 3) := by decide +kernel
theorem d_D_holds_106 : decode c_D_holds 106 = .ok (.ifCond .ne 10, 3) := by decide +kernel
theorem d_D_holds_109 : decode c_D_holds 109 = .ok (.aload_n 0, 1) := by decide +kernel
theorem d_D_holds_110 : decode c_D_holds 110 = .ok (.getfield 259, 3) := by decide +kernel
theorem d_D_holds_113 : decode c_D_holds 113 = .ok (.ifCond .eq 7, 3) := by decide +kernel
theorem d_D_holds_116 : decode c_D_holds 116 = .ok (.iconst 1, 1) := by decide +kernel
theorem d_D_holds_117 : decode c_D_holds 117 = .ok (.goto 4, 3) := by decide +kernel
theorem d_D_holds_120 : decode c_D_holds 120 = .ok (.iconst 0, 1) := by decide +kernel
theorem d_D_holds_121 : decode c_D_holds 121 = .ok (.istore_n 3, 1) := by decide +kernel
theorem d_D_holds_122 : decode c_D_holds 122 = .ok (.goto 24, 3) := by decide +kernel
theorem d_D_holds_125 : decode c_D_holds 125 = .ok (.aload_n 0, 1) := by decide +kernel
theorem d_D_holds_126 : decode c_D_holds 126 = .ok (.getfield 265, 3) := by decide +kernel
theorem d_D_holds_129 : decode c_D_holds 129 = .ok (.istore_n 3, 1) := by decide +kernel
theorem d_D_holds_130 : decode c_D_holds 130 = .ok (.goto 16, 3) := by decide +kernel
theorem d_D_holds_133 : decode c_D_holds 133 = .ok (.aload_n 0, 1) := by decide +kernel
theorem d_D_holds_134 : decode c_D_holds 134 = .ok (.getfield 255, 3) := by decide +kernel
theorem d_D_holds_137 : decode c_D_holds 137 = .ok (.istore_n 3, 1) := by decide +kernel
theorem d_D_holds_138 : decode c_D_holds 138 = .ok (.goto 8, 3) := by decide +kernel
theorem d_D_holds_141 : decode c_D_holds 141 = .ok (.aload_n 0, 1) := by decide +kernel
theorem d_D_holds_142 : decode c_D_holds 142 = .ok (.getfield 262, 3) := by decide +kernel
theorem d_D_holds_145 : decode c_D_holds 145 = .ok (.istore_n 3, 1) := by decide +kernel
theorem d_D_holds_146 : decode c_D_holds 146 = .ok (.iload_n 3, 1) := by decide +kernel
theorem d_D_holds_147 : decode c_D_holds 147 = .ok (.iload_n 1, 1) := by decide +kernel
theorem d_D_holds_148 : decode c_D_holds 148 = .ok (.bipush 7, 2) := by decide +kernel
theorem d_D_holds_150 : decode c_D_holds 150 = .ok (.if_icmp .le 7, 3) := by decide +kernel
theorem d_D_holds_153 : decode c_D_holds 153 = .ok (.iconst 1, 1) := by decide +kernel
theorem d_D_holds_154 : decode c_D_holds 154 = .ok (.goto 4, 3) := by decide +kernel
theorem d_D_holds_157 : decode c_D_holds 157 = .ok (.iconst 0, 1) := by decide +kernel
theorem d_D_holds_158 : decode c_D_holds 158 = .ok (.if_icmp .eq 7, 3) := by decide +kernel
theorem d_D_holds_161 : decode c_D_holds 161 = .ok (.iconst 1, 1) := by decide +kernel
theorem d_D_holds_162 : decode c_D_holds 162 = .ok (.goto 4, 3) := by decide +kernel
theorem d_D_holds_165 : decode c_D_holds 165 = .ok (.iconst 0, 1) := by decide +kernel
theorem d_D_holds_166 : decode c_D_holds 166 = .ok (.ireturn, 1) := by decide +kernel
theorem kd_D_holds : (y_D_holds).cls = "WindowMachineModel" ∧ (y_D_holds).cls ≠ "java/lang/invoke/MethodHandle" ∧ (y_D_holds).cls ≠ "java/lang/invoke/VarHandle" ∧ (parseMethodDescriptor (y_D_holds).desc).map (fun d => d.parameters.length) = some 1 := by decide +kernel
def m_holds (st : SD) (p0 : Int32) : Int32 := (let x_1 := (if (st.1 13) = (st.1 15) then (0 : Int32) else (1 : Int32)); (let x_4 := (if (p0 &&& (7 : Int32)) = (0 : Int32) then (0 : Int32) else (if (p0 &&& (7 : Int32)) = (1 : Int32) then st.1 14 else (if (p0 &&& (7 : Int32)) = (2 : Int32) then (if (st.1 14) = (0 : Int32) then (if x_1 = (0 : Int32) then (0 : Int32) else (1 : Int32)) else (1 : Int32)) else (if (p0 &&& (7 : Int32)) = (3 : Int32) then x_1 else (if (p0 &&& (7 : Int32)) = (4 : Int32) then (if (st.1 16) = (0 : Int32) then (if (st.1 14) = (0 : Int32) then (0 : Int32) else (1 : Int32)) else (1 : Int32)) else (if (p0 &&& (7 : Int32)) = (5 : Int32) then st.1 16 else (if (p0 &&& (7 : Int32)) = (6 : Int32) then st.1 13 else st.1 15))))))); (let x_22 := (if p0 ≤ (7 : Int32) then (0 : Int32) else (1 : Int32)); (let x_25 := (if x_4 = x_22 then (0 : Int32) else (1 : Int32)); x_25))))
set_option maxHeartbeats 4000000 in
set_option maxRecDepth 100000 in
theorem mt_D_holds (l : Launch) (D : va_G) (h : Nat → Nat) (c : Nat → ClassId) (sz : Nat) (st : SD) (p0 : Int32) : Met l y_D_holds w_D_holds ({ frames := 0, cells := 0, slots := 0, locals := 0 }) (va_Pc [.ref (h 20), .int p0] (zw_pre D vwCl [(c 21, .long), (c 22, .int), (c 23, .int), (c 24, .int), (c 25, .int), (c 26, .int), (c 27, .int), (c 28, .int)] sz (wD h c st) (fun _ => True))) (va_Qi (fun r (_ : Unit) => r = m_holds st p0) (fun u t => zw_at D vwCl (va_A (wD h c st) sz) ((fun (_ : Unit) => wD h c st) u) t) (va_A (wD h c st) sz)) 0 0 (va_A (wD h c st) sz) := by
  refine zm (Qf := fun A => va_Qi (fun r (_ : Unit) => r = m_holds st p0) (fun u t => zw_at D vwCl A ((fun (_ : Unit) => wD h c st) u) t) A) (Zf := fun _ _ => True) (cc := c_D_holds) (nL := 4) (ret := (some .boolean)) (by decide) rfl (Nat.le_of_ble_eq_true rfl) ?_
  intro p e s m below meth c9 A H locs ls hx hb hml hown hts hr hlocks hA hK hP hD hS hZ hl
  have hl : lv_has ls 4 [(0, .ref (h 20)), (1, .int p0)] := hl
  have ht : ∀ w9 ∈ zT, w9.before _ s = true := fun w9 h9 => hts w9 (List.mem_cons_of_mem _ h9)
  refine lv_aload_n hx hb d_D_holds_0 rfl (lv_at hl 0 rfl) ?_
  refine va_get (D := D) (ci := 6) (v := .int (st.1 13)) (C := "WindowMachineModel") (T := T_D) (N := 31) hx hb ht zi_D hown hK hP 0 rfl rfl 21 (by decide) (ht _ zw_875) (fun _ h9 => h9) rfl d_D_holds_1 ?_
  refine lv_aload_n hx hb d_D_holds_4 rfl (lv_at hl 0 rfl) ?_
  refine va_get (D := D) (ci := 6) (v := .int (st.1 15)) (C := "WindowMachineModel") (T := T_D) (N := 31) hx hb ht zi_D hown hK hP 0 rfl rfl 23 (by decide) (ht _ zw_877) (fun _ h9 => h9) rfl d_D_holds_5 ?_
  refine zcut (X := Int32) (G := fun v9 H locs ls => v9 = (if (st.1 13) = (st.1 15) then (0 : Int32) else (1 : Int32)) ∧ va_P D vwCl (wD h c st) H ∧ va_D A (wD h c st) ∧ va_S A s.heap H locs ∧ lv_has ls 4 [(0, .ref (h 20)), (1, .int p0)]) (fr := fun v9 ls => F0 m 16 ls [.int v9]) (fun J_2 => ?_) (fun v9 H locs ls hG => ?_)
  · refine lv_icmp_eq (tgt := 15) hx hb d_D_holds_8 (by decide) (fun c_3 => ?_) (fun c_3 => ?_)
    · refine lv_iconst (v := (0 : Int32)) hx hb d_D_holds_15 (by decide) ?_
      exact J_2 (0 : Int32) _ _ _ ⟨by simp only [if_pos c_3], hP, hD, hS, hl⟩
    refine lv_iconst (v := (1 : Int32)) hx hb d_D_holds_11 (by decide) ?_
    refine lv_goto (tgt := 16) hx hb d_D_holds_12 (by decide) ?_
    exact J_2 (1 : Int32) _ _ _ ⟨by simp only [if_neg c_3], hP, hD, hS, hl⟩
  obtain ⟨x_1, rfl⟩ : ∃ z, z = v9 := ⟨_, rfl⟩
  obtain ⟨ex_1, hP, hD, hS, hl⟩ := hG
  have zbx_1 : zB x_1 := by rw [ex_1]; repeat' first | exact zB0 | exact zB1 | assumption | apply zB_ite
  refine lv_istore_n (lv' := [(2, .int x_1), (0, .ref (h 20)), (1, .int p0)]) hx hb d_D_holds_16 rfl hl (by decide) rfl (fun ls hl => ?_)
  refine lv_iload_n hx hb d_D_holds_17 rfl (lv_at hl 2 rfl) ?_
  refine lv_bipush (v := (7 : Int32)) hx hb d_D_holds_18 (by decide) ?_
  refine lv_iand hx hb d_D_holds_20 ?_
  refine zcut (X := Int32) (G := fun v9 H locs ls => v9 = (if (p0 &&& (7 : Int32)) = (0 : Int32) then (0 : Int32) else (if (p0 &&& (7 : Int32)) = (1 : Int32) then st.1 14 else (if (p0 &&& (7 : Int32)) = (2 : Int32) then (if (st.1 14) = (0 : Int32) then (if x_1 = (0 : Int32) then (0 : Int32) else (1 : Int32)) else (1 : Int32)) else (if (p0 &&& (7 : Int32)) = (3 : Int32) then x_1 else (if (p0 &&& (7 : Int32)) = (4 : Int32) then (if (st.1 16) = (0 : Int32) then (if (st.1 14) = (0 : Int32) then (0 : Int32) else (1 : Int32)) else (1 : Int32)) else (if (p0 &&& (7 : Int32)) = (5 : Int32) then st.1 16 else (if (p0 &&& (7 : Int32)) = (6 : Int32) then st.1 13 else st.1 15))))))) ∧ va_P D vwCl (wD h c st) H ∧ va_D A (wD h c st) ∧ va_S A s.heap H locs ∧ lv_has ls 4 [(0, .ref (h 20)), (1, .int p0), (2, .int x_1), (3, .int v9)]) (fr := fun v9 ls => F0 m 146 ls []) (fun J_5 => ?_) (fun v9 H locs ls hG => ?_)
  · by_cases c_7 : (p0 &&& (7 : Int32)) = (0 : Int32)
    · refine lv_tableIn (tgt := 64) hx hb d_D_holds_21 (by rw [c_7]; decide) (by rw [c_7]; decide) (by rw [c_7]; rfl) (by decide) ?_
      refine lv_iconst (v := (0 : Int32)) hx hb d_D_holds_64 (by decide) ?_
      refine lv_istore_n (lv' := [(3, .int (0 : Int32)), (2, .int x_1), (0, .ref (h 20)), (1, .int p0)]) hx hb d_D_holds_65 rfl hl (by decide) rfl (fun ls hl => ?_)
      refine lv_goto (tgt := 146) hx hb d_D_holds_66 (by decide) ?_
      exact J_5 (0 : Int32) _ _ _ ⟨by simp only [if_pos c_7], hP, hD, hS, (lv_sub hl [2, 3, 1, 0] rfl)⟩
    by_cases c_8 : (p0 &&& (7 : Int32)) = (1 : Int32)
    · refine lv_tableIn (tgt := 69) hx hb d_D_holds_21 (by rw [c_8]; decide) (by rw [c_8]; decide) (by rw [c_8]; rfl) (by decide) ?_
      refine lv_aload_n hx hb d_D_holds_69 rfl (lv_at hl 1 rfl) ?_
      refine va_get (D := D) (ci := 6) (v := .int (st.1 14)) (C := "WindowMachineModel") (T := T_D) (N := 31) hx hb ht zi_D hown hK hP 0 rfl rfl 22 (by decide) (ht _ zw_876) (fun _ h9 => h9) rfl d_D_holds_70 ?_
      refine lv_istore_n (lv' := [(3, .int (st.1 14)), (2, .int x_1), (0, .ref (h 20)), (1, .int p0)]) hx hb d_D_holds_73 rfl hl (by decide) rfl (fun ls hl => ?_)
      refine lv_goto (tgt := 146) hx hb d_D_holds_74 (by decide) ?_
      exact J_5 (st.1 14) _ _ _ ⟨by simp only [if_neg c_7, if_pos c_8], hP, hD, hS, (lv_sub hl [2, 3, 1, 0] rfl)⟩
    by_cases c_9 : (p0 &&& (7 : Int32)) = (2 : Int32)
    · refine lv_tableIn (tgt := 77) hx hb d_D_holds_21 (by rw [c_9]; decide) (by rw [c_9]; decide) (by rw [c_9]; rfl) (by decide) ?_
      refine lv_aload_n hx hb d_D_holds_77 rfl (lv_at hl 1 rfl) ?_
      refine va_get (D := D) (ci := 6) (v := .int (st.1 14)) (C := "WindowMachineModel") (T := T_D) (N := 31) hx hb ht zi_D hown hK hP 0 rfl rfl 22 (by decide) (ht _ zw_876) (fun _ h9 => h9) rfl d_D_holds_78 ?_
      refine zcut (X := Int32) (G := fun v9 H locs ls => v9 = (if (st.1 14) = (0 : Int32) then (if x_1 = (0 : Int32) then (0 : Int32) else (1 : Int32)) else (1 : Int32)) ∧ va_P D vwCl (wD h c st) H ∧ va_D A (wD h c st) ∧ va_S A s.heap H locs ∧ lv_has ls 4 [(0, .ref (h 20)), (1, .int p0), (2, .int x_1)]) (fr := fun v9 ls => F0 m 93 ls [.int v9]) (fun J_11 => ?_) (fun v9 H locs ls hG => ?_)
      · refine lv_if_ne (tgt := 88) hx hb d_D_holds_81 (by decide) (fun c_12 => ?_) (fun c_12 => ?_)
        · refine lv_iconst (v := (1 : Int32)) hx hb d_D_holds_88 (by decide) ?_
          refine lv_goto (tgt := 93) hx hb d_D_holds_89 (by decide) ?_
          exact J_11 (1 : Int32) _ _ _ ⟨by simp only [if_neg c_12], hP, hD, hS, (lv_sub hl [1, 2, 0] rfl)⟩
        refine lv_iload_n hx hb d_D_holds_84 rfl (lv_at hl 0 rfl) ?_
        refine lv_if_eq (tgt := 92) hx hb d_D_holds_85 (by decide) (fun c_13 => ?_) (fun c_13 => ?_)
        · refine lv_iconst (v := (0 : Int32)) hx hb d_D_holds_92 (by decide) ?_
          exact J_11 (0 : Int32) _ _ _ ⟨by simp only [if_pos c_12, if_pos c_13], hP, hD, hS, (lv_sub hl [1, 2, 0] rfl)⟩
        refine lv_iconst (v := (1 : Int32)) hx hb d_D_holds_88 (by decide) ?_
        refine lv_goto (tgt := 93) hx hb d_D_holds_89 (by decide) ?_
        exact J_11 (1 : Int32) _ _ _ ⟨by simp only [if_pos c_12, if_neg c_13], hP, hD, hS, (lv_sub hl [1, 2, 0] rfl)⟩
      obtain ⟨x_10, rfl⟩ : ∃ z, z = v9 := ⟨_, rfl⟩
      obtain ⟨ex_10, hP, hD, hS, hl⟩ := hG
      subst ex_10
      refine lv_istore_n (lv' := [(3, .int (if (st.1 14) = (0 : Int32) then (if x_1 = (0 : Int32) then (0 : Int32) else (1 : Int32)) else (1 : Int32))), (0, .ref (h 20)), (1, .int p0), (2, .int x_1)]) hx hb d_D_holds_93 rfl hl (by decide) rfl (fun ls hl => ?_)
      refine lv_goto (tgt := 146) hx hb d_D_holds_94 (by decide) ?_
      exact J_5 (if (st.1 14) = (0 : Int32) then (if x_1 = (0 : Int32) then (0 : Int32) else (1 : Int32)) else (1 : Int32)) _ _ _ ⟨by simp only [if_neg c_7, if_neg c_8, if_pos c_9], hP, hD, hS, (lv_sub hl [1, 2, 3, 0] rfl)⟩
    by_cases c_14 : (p0 &&& (7 : Int32)) = (3 : Int32)
    · refine lv_tableIn (tgt := 97) hx hb d_D_holds_21 (by rw [c_14]; decide) (by rw [c_14]; decide) (by rw [c_14]; rfl) (by decide) ?_
      refine lv_iload_n hx hb d_D_holds_97 rfl (lv_at hl 0 rfl) ?_
      refine lv_istore_n (lv' := [(3, .int x_1), (2, .int x_1), (0, .ref (h 20)), (1, .int p0)]) hx hb d_D_holds_98 rfl hl (by decide) rfl (fun ls hl => ?_)
      refine lv_goto (tgt := 146) hx hb d_D_holds_99 (by decide) ?_
      exact J_5 x_1 _ _ _ ⟨by simp only [if_neg c_7, if_neg c_8, if_neg c_9, if_pos c_14], hP, hD, hS, (lv_sub hl [2, 3, 1, 0] rfl)⟩
    by_cases c_15 : (p0 &&& (7 : Int32)) = (4 : Int32)
    · refine lv_tableIn (tgt := 102) hx hb d_D_holds_21 (by rw [c_15]; decide) (by rw [c_15]; decide) (by rw [c_15]; rfl) (by decide) ?_
      refine lv_aload_n hx hb d_D_holds_102 rfl (lv_at hl 1 rfl) ?_
      refine va_get (D := D) (ci := 6) (v := .int (st.1 16)) (C := "WindowMachineModel") (T := T_D) (N := 31) hx hb ht zi_D hown hK hP 0 rfl rfl 24 (by decide) (ht _ zw_878) (fun _ h9 => h9) rfl d_D_holds_103 ?_
      refine zcut (X := Int32) (G := fun v9 H locs ls => v9 = (if (st.1 16) = (0 : Int32) then (if (st.1 14) = (0 : Int32) then (0 : Int32) else (1 : Int32)) else (1 : Int32)) ∧ va_P D vwCl (wD h c st) H ∧ va_D A (wD h c st) ∧ va_S A s.heap H locs ∧ lv_has ls 4 [(0, .ref (h 20)), (1, .int p0), (2, .int x_1)]) (fr := fun v9 ls => F0 m 121 ls [.int v9]) (fun J_17 => ?_) (fun v9 H locs ls hG => ?_)
      · refine lv_if_ne (tgt := 116) hx hb d_D_holds_106 (by decide) (fun c_18 => ?_) (fun c_18 => ?_)
        · refine lv_iconst (v := (1 : Int32)) hx hb d_D_holds_116 (by decide) ?_
          refine lv_goto (tgt := 121) hx hb d_D_holds_117 (by decide) ?_
          exact J_17 (1 : Int32) _ _ _ ⟨by simp only [if_neg c_18], hP, hD, hS, (lv_sub hl [1, 2, 0] rfl)⟩
        refine lv_aload_n hx hb d_D_holds_109 rfl (lv_at hl 1 rfl) ?_
        refine va_get (D := D) (ci := 6) (v := .int (st.1 14)) (C := "WindowMachineModel") (T := T_D) (N := 31) hx hb ht zi_D hown hK hP 0 rfl rfl 22 (by decide) (ht _ zw_876) (fun _ h9 => h9) rfl d_D_holds_110 ?_
        refine lv_if_eq (tgt := 120) hx hb d_D_holds_113 (by decide) (fun c_19 => ?_) (fun c_19 => ?_)
        · refine lv_iconst (v := (0 : Int32)) hx hb d_D_holds_120 (by decide) ?_
          exact J_17 (0 : Int32) _ _ _ ⟨by simp only [if_pos c_18, if_pos c_19], hP, hD, hS, (lv_sub hl [1, 2, 0] rfl)⟩
        refine lv_iconst (v := (1 : Int32)) hx hb d_D_holds_116 (by decide) ?_
        refine lv_goto (tgt := 121) hx hb d_D_holds_117 (by decide) ?_
        exact J_17 (1 : Int32) _ _ _ ⟨by simp only [if_pos c_18, if_neg c_19], hP, hD, hS, (lv_sub hl [1, 2, 0] rfl)⟩
      obtain ⟨x_16, rfl⟩ : ∃ z, z = v9 := ⟨_, rfl⟩
      obtain ⟨ex_16, hP, hD, hS, hl⟩ := hG
      subst ex_16
      refine lv_istore_n (lv' := [(3, .int (if (st.1 16) = (0 : Int32) then (if (st.1 14) = (0 : Int32) then (0 : Int32) else (1 : Int32)) else (1 : Int32))), (0, .ref (h 20)), (1, .int p0), (2, .int x_1)]) hx hb d_D_holds_121 rfl hl (by decide) rfl (fun ls hl => ?_)
      refine lv_goto (tgt := 146) hx hb d_D_holds_122 (by decide) ?_
      exact J_5 (if (st.1 16) = (0 : Int32) then (if (st.1 14) = (0 : Int32) then (0 : Int32) else (1 : Int32)) else (1 : Int32)) _ _ _ ⟨by simp only [if_neg c_7, if_neg c_8, if_neg c_9, if_neg c_14, if_pos c_15], hP, hD, hS, (lv_sub hl [1, 2, 3, 0] rfl)⟩
    by_cases c_20 : (p0 &&& (7 : Int32)) = (5 : Int32)
    · refine lv_tableIn (tgt := 125) hx hb d_D_holds_21 (by rw [c_20]; decide) (by rw [c_20]; decide) (by rw [c_20]; rfl) (by decide) ?_
      refine lv_aload_n hx hb d_D_holds_125 rfl (lv_at hl 1 rfl) ?_
      refine va_get (D := D) (ci := 6) (v := .int (st.1 16)) (C := "WindowMachineModel") (T := T_D) (N := 31) hx hb ht zi_D hown hK hP 0 rfl rfl 24 (by decide) (ht _ zw_878) (fun _ h9 => h9) rfl d_D_holds_126 ?_
      refine lv_istore_n (lv' := [(3, .int (st.1 16)), (2, .int x_1), (0, .ref (h 20)), (1, .int p0)]) hx hb d_D_holds_129 rfl hl (by decide) rfl (fun ls hl => ?_)
      refine lv_goto (tgt := 146) hx hb d_D_holds_130 (by decide) ?_
      exact J_5 (st.1 16) _ _ _ ⟨by simp only [if_neg c_7, if_neg c_8, if_neg c_9, if_neg c_14, if_neg c_15, if_pos c_20], hP, hD, hS, (lv_sub hl [2, 3, 1, 0] rfl)⟩
    by_cases c_21 : (p0 &&& (7 : Int32)) = (6 : Int32)
    · refine lv_tableIn (tgt := 133) hx hb d_D_holds_21 (by rw [c_21]; decide) (by rw [c_21]; decide) (by rw [c_21]; rfl) (by decide) ?_
      refine lv_aload_n hx hb d_D_holds_133 rfl (lv_at hl 1 rfl) ?_
      refine va_get (D := D) (ci := 6) (v := .int (st.1 13)) (C := "WindowMachineModel") (T := T_D) (N := 31) hx hb ht zi_D hown hK hP 0 rfl rfl 21 (by decide) (ht _ zw_875) (fun _ h9 => h9) rfl d_D_holds_134 ?_
      refine lv_istore_n (lv' := [(3, .int (st.1 13)), (2, .int x_1), (0, .ref (h 20)), (1, .int p0)]) hx hb d_D_holds_137 rfl hl (by decide) rfl (fun ls hl => ?_)
      refine lv_goto (tgt := 146) hx hb d_D_holds_138 (by decide) ?_
      exact J_5 (st.1 13) _ _ _ ⟨by simp only [if_neg c_7, if_neg c_8, if_neg c_9, if_neg c_14, if_neg c_15, if_neg c_20, if_pos c_21], hP, hD, hS, (lv_sub hl [2, 3, 1, 0] rfl)⟩
    refine lv_tableOut (tgt := 141) hx hb d_D_holds_21 (by have := lv_neT c_7 (a := 0) (by decide); have := lv_neT c_8 (a := 1) (by decide); have := lv_neT c_9 (a := 2) (by decide); have := lv_neT c_14 (a := 3) (by decide); have := lv_neT c_15 (a := 4) (by decide); have := lv_neT c_20 (a := 5) (by decide); have := lv_neT c_21 (a := 6) (by decide); omega) (by decide) ?_
    refine lv_aload_n hx hb d_D_holds_141 rfl (lv_at hl 1 rfl) ?_
    refine va_get (D := D) (ci := 6) (v := .int (st.1 15)) (C := "WindowMachineModel") (T := T_D) (N := 31) hx hb ht zi_D hown hK hP 0 rfl rfl 23 (by decide) (ht _ zw_877) (fun _ h9 => h9) rfl d_D_holds_142 ?_
    refine lv_istore_n (lv' := [(3, .int (st.1 15)), (2, .int x_1), (0, .ref (h 20)), (1, .int p0)]) hx hb d_D_holds_145 rfl hl (by decide) rfl (fun ls hl => ?_)
    exact J_5 (st.1 15) _ _ _ ⟨by simp only [if_neg c_7, if_neg c_8, if_neg c_9, if_neg c_14, if_neg c_15, if_neg c_20, if_neg c_21], hP, hD, hS, (lv_sub hl [2, 3, 1, 0] rfl)⟩
  obtain ⟨x_4, rfl⟩ : ∃ z, z = v9 := ⟨_, rfl⟩
  obtain ⟨ex_4, hP, hD, hS, hl⟩ := hG
  refine lv_iload_n hx hb d_D_holds_146 rfl (lv_at hl 3 rfl) ?_
  refine lv_iload_n hx hb d_D_holds_147 rfl (lv_at hl 1 rfl) ?_
  refine lv_bipush (v := (7 : Int32)) hx hb d_D_holds_148 (by decide) ?_
  refine zcut (X := Int32) (G := fun v9 H locs ls => v9 = (if p0 ≤ (7 : Int32) then (0 : Int32) else (1 : Int32)) ∧ va_P D vwCl (wD h c st) H ∧ va_D A (wD h c st) ∧ va_S A s.heap H locs ∧ lv_has ls 4 [(0, .ref (h 20)), (1, .int p0), (2, .int x_1), (3, .int x_4)]) (fr := fun v9 ls => F0 m 158 ls [.int v9, .int x_4]) (fun J_23 => ?_) (fun v9 H locs ls hG => ?_)
  · refine lv_icmp_le (tgt := 157) hx hb d_D_holds_150 (by decide) (fun c_24 => ?_) (fun c_24 => ?_)
    · refine lv_iconst (v := (0 : Int32)) hx hb d_D_holds_157 (by decide) ?_
      exact J_23 (0 : Int32) _ _ _ ⟨by simp only [if_pos c_24], hP, hD, hS, hl⟩
    refine lv_iconst (v := (1 : Int32)) hx hb d_D_holds_153 (by decide) ?_
    refine lv_goto (tgt := 158) hx hb d_D_holds_154 (by decide) ?_
    exact J_23 (1 : Int32) _ _ _ ⟨by simp only [if_neg c_24], hP, hD, hS, hl⟩
  obtain ⟨x_22, rfl⟩ : ∃ z, z = v9 := ⟨_, rfl⟩
  obtain ⟨ex_22, hP, hD, hS, hl⟩ := hG
  have zbx_22 : zB x_22 := by rw [ex_22]; repeat' first | exact zB0 | exact zB1 | assumption | apply zB_ite
  refine zcut (X := Int32) (G := fun v9 H locs ls => v9 = (if x_4 = x_22 then (0 : Int32) else (1 : Int32)) ∧ va_P D vwCl (wD h c st) H ∧ va_D A (wD h c st) ∧ va_S A s.heap H locs ∧ lv_has ls 4 [(0, .ref (h 20)), (1, .int p0), (2, .int x_1), (3, .int x_4)]) (fr := fun v9 ls => F0 m 166 ls [.int v9]) (fun J_26 => ?_) (fun v9 H locs ls hG => ?_)
  · refine lv_icmp_eq (tgt := 165) hx hb d_D_holds_158 (by decide) (fun c_27 => ?_) (fun c_27 => ?_)
    · refine lv_iconst (v := (0 : Int32)) hx hb d_D_holds_165 (by decide) ?_
      exact J_26 (0 : Int32) _ _ _ ⟨by simp only [if_pos c_27], hP, hD, hS, hl⟩
    refine lv_iconst (v := (1 : Int32)) hx hb d_D_holds_161 (by decide) ?_
    refine lv_goto (tgt := 166) hx hb d_D_holds_162 (by decide) ?_
    exact J_26 (1 : Int32) _ _ _ ⟨by simp only [if_neg c_27], hP, hD, hS, hl⟩
  obtain ⟨x_25, rfl⟩ : ∃ z, z = v9 := ⟨_, rfl⟩
  obtain ⟨ex_25, hP, hD, hS, hl⟩ := hG
  have zbx_25 : zB x_25 := by rw [ex_25]; repeat' first | exact zB0 | exact zB1 | assumption | apply zB_ite
  exact zl_z (u := ()) hx hb hr (zbx_25).n hlocks hS hP hD (by simp only [m_holds, ← ex_1, ← ex_4, ← ex_22, ← ex_25]) d_D_holds_166
theorem d_D_flags_0 : decode c_D_flags 0 = .ok (.aload_n 0, 1) := by decide +kernel
theorem d_D_flags_1 : decode c_D_flags 1 = .ok (.lload_n 1, 1) := by decide +kernel
theorem d_D_flags_2 : decode c_D_flags 2 = .ok (.l2i, 1) := by decide +kernel
theorem d_D_flags_3 : decode c_D_flags 3 = .ok (.ifCond .ge 7, 3) := by decide +kernel
theorem d_D_flags_6 : decode c_D_flags 6 = .ok (.iconst 1, 1) := by decide +kernel
theorem d_D_flags_7 : decode c_D_flags 7 = .ok (.goto 4, 3) := by decide +kernel
theorem d_D_flags_10 : decode c_D_flags 10 = .ok (.iconst 0, 1) := by decide +kernel
theorem d_D_flags_11 : decode c_D_flags 11 = .ok (.putfield 255, 3) := by decide +kernel
theorem d_D_flags_14 : decode c_D_flags 14 = .ok (.aload_n 0, 1) := by decide +kernel
theorem d_D_flags_15 : decode c_D_flags 15 = .ok (.lload_n 1, 1) := by decide +kernel
theorem d_D_flags_16 : decode c_D_flags 16 = .ok (.l2i, 1) := by decide +kernel
theorem d_D_flags_17 : decode c_D_flags 17 = .ok (.ifCond .ne 7, 3) := by decide +kernel
theorem d_D_flags_20 : decode c_D_flags 20 = .ok (.iconst 1, 1) := by decide +kernel
theorem d_D_flags_21 : decode c_D_flags 21 = .ok (.goto 4, 3) := by decide +kernel
theorem d_D_flags_24 : decode c_D_flags 24 = .ok (.iconst 0, 1) := by decide +kernel
theorem d_D_flags_25 : decode c_D_flags 25 = .ok (.putfield 259, 3) := by decide +kernel
theorem d_D_flags_28 : decode c_D_flags 28 = .ok (.aload_n 0, 1) := by decide +kernel
theorem d_D_flags_29 : decode c_D_flags 29 = .ok (.iload_n 3, 1) := by decide +kernel
theorem d_D_flags_30 : decode c_D_flags 30 = .ok (.putfield 262, 3) := by decide +kernel
theorem d_D_flags_33 : decode c_D_flags 33 = .ok (.aload_n 0, 1) := by decide +kernel
theorem d_D_flags_34 : decode c_D_flags 34 = .ok (.iload 4, 2) := by decide +kernel
theorem d_D_flags_36 : decode c_D_flags 36 = .ok (.putfield 265, 3) := by decide +kernel
theorem d_D_flags_39 : decode c_D_flags 39 = .ok (.return_, 1) := by decide +kernel
theorem kd_D_flags : (y_D_flags).cls = "WindowMachineModel" ∧ (y_D_flags).cls ≠ "java/lang/invoke/MethodHandle" ∧ (y_D_flags).cls ≠ "java/lang/invoke/VarHandle" ∧ (parseMethodDescriptor (y_D_flags).desc).map (fun d => d.parameters.length) = some 3 := by decide +kernel
def m_flags (st : SD) (p0 : Int64) (p1 : Int32) (p2 : Int32) : SD := (let x_1 := (if (0 : Int32) ≤ p0.toInt32 then (0 : Int32) else (1 : Int32)); (let x_4 := (if p0.toInt32 = (0 : Int32) then (1 : Int32) else (0 : Int32)); (upd (upd (upd (upd st.1 13 x_1) 14 x_4) 15 p1) 16 p2, st.2.1, st.2.2.1, st.2.2.2.1, st.2.2.2.2.1, st.2.2.2.2.2)))
set_option maxHeartbeats 4000000 in
set_option maxRecDepth 100000 in
theorem mt_D_flags (l : Launch) (D : va_G) (h : Nat → Nat) (c : Nat → ClassId) (sz : Nat) (st : SD) (p0 : Int64) (p1 : Int32) (p2 : Int32) (zbp1 : zB p1) (zbp2 : zB p2) : Met l y_D_flags w_D_flags ({ frames := 0, cells := 0, slots := 0, locals := 0 }) (va_Pc [.ref (h 20), .long p0, .int p1, .int p2] (zw_pre D vwCl [(c 21, .long), (c 22, .int), (c 23, .int), (c 24, .int), (c 25, .int), (c 26, .int), (c 27, .int), (c 28, .int)] sz (wD h c st) (fun _ => True))) (va_Qv (fun (u : SD) => u = m_flags st p0 p1 p2) (fun u t => zw_at D vwCl (va_A (wD h c st) sz) ((fun (u : SD) => wD h c u) u) t) (va_A (wD h c st) sz)) 0 0 (va_A (wD h c st) sz) := by
  refine zm (Qf := fun A => va_Qv (fun (u : SD) => u = m_flags st p0 p1 p2) (fun u t => zw_at D vwCl A ((fun (u : SD) => wD h c u) u) t) A) (Zf := fun _ _ => True) (cc := c_D_flags) (nL := 5) (ret := none) (by decide) rfl (Nat.le_of_ble_eq_true rfl) ?_
  intro p e s m below meth c9 A H locs ls hx hb hml hown hts hr hlocks hA hK hP hD hS hZ hl
  have hl : lv_has ls 5 [(0, .ref (h 20)), (1, .long p0), (3, .int p1), (4, .int p2)] := hl
  have ht : ∀ w9 ∈ zT, w9.before _ s = true := fun w9 h9 => hts w9 (List.mem_cons_of_mem _ h9)
  refine lv_aload_n hx hb d_D_flags_0 rfl (lv_at hl 0 rfl) ?_
  refine lv_lload_n hx hb d_D_flags_1 rfl (lv_at hl 1 rfl) ?_
  refine lv_l2i (v := p0.toInt32) hx hb d_D_flags_2 rfl ?_
  refine zcut (X := Int32) (G := fun v9 H locs ls => v9 = (if (0 : Int32) ≤ p0.toInt32 then (0 : Int32) else (1 : Int32)) ∧ va_P D vwCl (wD h c st) H ∧ va_D A (wD h c st) ∧ va_S A s.heap H locs ∧ lv_has ls 5 [(0, .ref (h 20)), (1, .long p0), (3, .int p1), (4, .int p2)]) (fr := fun v9 ls => F0 m 11 ls [.int v9, .ref (h 20)]) (fun J_2 => ?_) (fun v9 H locs ls hG => ?_)
  · refine lv_if_ge (tgt := 10) hx hb d_D_flags_3 (by decide) (fun c_3 => ?_) (fun c_3 => ?_)
    · refine lv_iconst (v := (0 : Int32)) hx hb d_D_flags_10 (by decide) ?_
      exact J_2 (0 : Int32) _ _ _ ⟨by simp only [if_pos c_3], hP, hD, hS, hl⟩
    refine lv_iconst (v := (1 : Int32)) hx hb d_D_flags_6 (by decide) ?_
    refine lv_goto (tgt := 11) hx hb d_D_flags_7 (by decide) ?_
    exact J_2 (1 : Int32) _ _ _ ⟨by simp only [if_neg c_3], hP, hD, hS, hl⟩
  obtain ⟨x_1, rfl⟩ : ∃ z, z = v9 := ⟨_, rfl⟩
  obtain ⟨ex_1, hP, hD, hS, hl⟩ := hG
  have zbx_1 : zB x_1 := by rw [ex_1]; repeat' first | exact zB0 | exact zB1 | assumption | apply zB_ite
  refine va_put (D := D) (ci := 6) (v := .int x_1) (ty := .boolean) (C := "WindowMachineModel") (T := T_D) (N := 31) hx hb ht zi_D ty_D tyok_D nm_D hown hK hP hD hS 0 rfl rfl 21 (by decide) (ht _ zw_875) (fun _ h9 => h9) rfl (by decide +kernel) (zbx_1).n (zbx_1).f (Nat.le_of_ble_eq_true rfl) d_D_flags_11 (fun H locs hP hD hS => ?_)
  have hP : va_P D vwCl (wD h c (upd st.1 13 x_1, st.2.1, st.2.2.1, st.2.2.2.1, st.2.2.2.2.1, st.2.2.2.2.2)) H := hP
  have hD : va_D A (wD h c (upd st.1 13 x_1, st.2.1, st.2.2.1, st.2.2.2.1, st.2.2.2.2.1, st.2.2.2.2.2)) := hD
  refine lv_aload_n hx hb d_D_flags_14 rfl (lv_at hl 0 rfl) ?_
  refine lv_lload_n hx hb d_D_flags_15 rfl (lv_at hl 1 rfl) ?_
  refine lv_l2i (v := p0.toInt32) hx hb d_D_flags_16 rfl ?_
  refine zcut (X := Int32) (G := fun v9 H locs ls => v9 = (if p0.toInt32 = (0 : Int32) then (1 : Int32) else (0 : Int32)) ∧ va_P D vwCl (wD h c (upd st.1 13 x_1, st.2.1, st.2.2.1, st.2.2.2.1, st.2.2.2.2.1, st.2.2.2.2.2)) H ∧ va_D A (wD h c (upd st.1 13 x_1, st.2.1, st.2.2.1, st.2.2.2.1, st.2.2.2.2.1, st.2.2.2.2.2)) ∧ va_S A s.heap H locs ∧ lv_has ls 5 [(0, .ref (h 20)), (1, .long p0), (3, .int p1), (4, .int p2)]) (fr := fun v9 ls => F0 m 25 ls [.int v9, .ref (h 20)]) (fun J_5 => ?_) (fun v9 H locs ls hG => ?_)
  · refine lv_if_ne (tgt := 24) hx hb d_D_flags_17 (by decide) (fun c_6 => ?_) (fun c_6 => ?_)
    · refine lv_iconst (v := (0 : Int32)) hx hb d_D_flags_24 (by decide) ?_
      exact J_5 (0 : Int32) _ _ _ ⟨by simp only [if_neg c_6], hP, hD, hS, hl⟩
    refine lv_iconst (v := (1 : Int32)) hx hb d_D_flags_20 (by decide) ?_
    refine lv_goto (tgt := 25) hx hb d_D_flags_21 (by decide) ?_
    exact J_5 (1 : Int32) _ _ _ ⟨by simp only [if_pos c_6], hP, hD, hS, hl⟩
  obtain ⟨x_4, rfl⟩ : ∃ z, z = v9 := ⟨_, rfl⟩
  obtain ⟨ex_4, hP, hD, hS, hl⟩ := hG
  have zbx_4 : zB x_4 := by rw [ex_4]; repeat' first | exact zB0 | exact zB1 | assumption | apply zB_ite
  refine va_put (D := D) (ci := 6) (v := .int x_4) (ty := .boolean) (C := "WindowMachineModel") (T := T_D) (N := 31) hx hb ht zi_D ty_D tyok_D nm_D hown hK hP hD hS 0 rfl rfl 22 (by decide) (ht _ zw_876) (fun _ h9 => h9) rfl (by decide +kernel) (zbx_4).n (zbx_4).f (Nat.le_of_ble_eq_true rfl) d_D_flags_25 (fun H locs hP hD hS => ?_)
  have hP : va_P D vwCl (wD h c (upd (upd st.1 13 x_1) 14 x_4, st.2.1, st.2.2.1, st.2.2.2.1, st.2.2.2.2.1, st.2.2.2.2.2)) H := hP
  have hD : va_D A (wD h c (upd (upd st.1 13 x_1) 14 x_4, st.2.1, st.2.2.1, st.2.2.2.1, st.2.2.2.2.1, st.2.2.2.2.2)) := hD
  refine lv_aload_n hx hb d_D_flags_28 rfl (lv_at hl 0 rfl) ?_
  refine lv_iload_n hx hb d_D_flags_29 rfl (lv_at hl 2 rfl) ?_
  refine va_put (D := D) (ci := 6) (v := .int p1) (ty := .boolean) (C := "WindowMachineModel") (T := T_D) (N := 31) hx hb ht zi_D ty_D tyok_D nm_D hown hK hP hD hS 0 rfl rfl 23 (by decide) (ht _ zw_877) (fun _ h9 => h9) rfl (by decide +kernel) (zbp1).n (zbp1).f (Nat.le_of_ble_eq_true rfl) d_D_flags_30 (fun H locs hP hD hS => ?_)
  have hP : va_P D vwCl (wD h c (upd (upd (upd st.1 13 x_1) 14 x_4) 15 p1, st.2.1, st.2.2.1, st.2.2.2.1, st.2.2.2.2.1, st.2.2.2.2.2)) H := hP
  have hD : va_D A (wD h c (upd (upd (upd st.1 13 x_1) 14 x_4) 15 p1, st.2.1, st.2.2.1, st.2.2.2.1, st.2.2.2.2.1, st.2.2.2.2.2)) := hD
  refine lv_aload_n hx hb d_D_flags_33 rfl (lv_at hl 0 rfl) ?_
  refine lv_iload hx hb d_D_flags_34 (lv_at hl 3 rfl) ?_
  refine va_put (D := D) (ci := 6) (v := .int p2) (ty := .boolean) (C := "WindowMachineModel") (T := T_D) (N := 31) hx hb ht zi_D ty_D tyok_D nm_D hown hK hP hD hS 0 rfl rfl 24 (by decide) (ht _ zw_878) (fun _ h9 => h9) rfl (by decide +kernel) (zbp2).n (zbp2).f (Nat.le_of_ble_eq_true rfl) d_D_flags_36 (fun H locs hP hD hS => ?_)
  have hP : va_P D vwCl (wD h c (upd (upd (upd (upd st.1 13 x_1) 14 x_4) 15 p1) 16 p2, st.2.1, st.2.2.1, st.2.2.2.1, st.2.2.2.2.1, st.2.2.2.2.2)) H := hP
  have hD : va_D A (wD h c (upd (upd (upd (upd st.1 13 x_1) 14 x_4) 15 p1) 16 p2, st.2.1, st.2.2.1, st.2.2.2.1, st.2.2.2.2.1, st.2.2.2.2.2)) := hD
  exact zl_v (u := (upd (upd (upd (upd st.1 13 x_1) 14 x_4) 15 p1) 16 p2, st.2.1, st.2.2.1, st.2.2.2.1, st.2.2.2.2.1, st.2.2.2.2.2)) hx hb hr hlocks hS hP hD (by simp only [m_flags, ← ex_1, ← ex_4]) d_D_flags_39
theorem d_D_branch_0 : decode c_D_branch 0 = .ok (.iload_n 1, 1) := by decide +kernel
theorem d_D_branch_1 : decode c_D_branch 1 = .ok (.bipush 25, 2) := by decide +kernel
theorem d_D_branch_3 : decode c_D_branch 3 = .ok (.ishr, 1) := by decide +kernel
theorem d_D_branch_4 : decode c_D_branch 4 = .ok (.bipush 15, 2) := by decide +kernel
theorem d_D_branch_6 : decode c_D_branch 6 = .ok (.iand, 1) := by decide +kernel
theorem d_D_branch_7 : decode c_D_branch 7 = .ok (.istore_n 2, 1) := by decide +kernel
theorem d_D_branch_8 : decode c_D_branch 8 = .ok (.iload_n 1, 1) := by decide +kernel
theorem d_D_branch_9 : decode c_D_branch 9 = .ok (.bipush 29, 2) := by decide +kernel
theorem d_D_branch_11 : decode c_D_branch 11 = .ok (.ishr, 1) := by decide +kernel
theorem d_D_branch_12 : decode c_D_branch 12 = .ok (.iconst 1, 1) := by decide +kernel
theorem d_D_branch_13 : decode c_D_branch 13 = .ok (.iand, 1) := by decide +kernel
theorem d_D_branch_14 : decode c_D_branch 14 = .ok (.iconst 1, 1) := by decide +kernel
theorem d_D_branch_15 : decode c_D_branch 15 = .ok (.if_icmp .ne 7, 3) := by decide +kernel
theorem d_D_branch_18 : decode c_D_branch 18 = .ok (.iconst 1, 1) := by decide +kernel
theorem d_D_branch_19 : decode c_D_branch 19 = .ok (.goto 4, 3) := by decide +kernel
theorem d_D_branch_22 : decode c_D_branch 22 = .ok (.iconst 0, 1) := by decide +kernel
theorem d_D_branch_23 : decode c_D_branch 23 = .ok (.istore_n 3, 1) := by decide +kernel
theorem d_D_branch_24 : decode c_D_branch 24 = .ok (.aload_n 0, 1) := by decide +kernel
theorem d_D_branch_25 : decode c_D_branch 25 = .ok (.iload_n 2, 1) := by decide +kernel
theorem d_D_branch_26 : decode c_D_branch 26 = .ok (.invokevirtual 317, 3) := by decide +kernel
theorem d_D_branch_29 : decode c_D_branch 29 = .ok (.istore 4, 2) := by decide +kernel
theorem d_D_branch_31 : decode c_D_branch 31 = .ok (.iload 4, 2) := by decide +kernel
theorem d_D_branch_33 : decode c_D_branch 33 = .ok (.ifCond .eq 19, 3) := by decide +kernel
theorem d_D_branch_36 : decode c_D_branch 36 = .ok (.aload_n 0, 1) := by decide +kernel
theorem d_D_branch_37 : decode c_D_branch 37 = .ok (.aload_n 0, 1) := by decide +kernel
theorem d_D_branch_38 : decode c_D_branch 38 = .ok (.getfield 231, 3) := by decide +kernel
theorem d_D_branch_41 : decode c_D_branch 41 = .ok (.iload_n 1, 1) := by decide +kernel
theorem d_D_branch_42 : decode c_D_branch 42 = .ok (.bipush 10, 2) := by decide +kernel
theorem d_D_branch_44 : decode c_D_branch 44 = .ok (.ishl, 1) := by decide +kernel
theorem d_D_branch_45 : decode c_D_branch 45 = .ok (.bipush 8, 2) := by decide +kernel
theorem d_D_branch_47 : decode c_D_branch 47 = .ok (.ishr, 1) := by decide +kernel
theorem d_D_branch_48 : decode c_D_branch 48 = .ok (.iadd, 1) := by decide +kernel
theorem d_D_branch_49 : decode c_D_branch 49 = .ok (.putfield 320, 3) := by decide +kernel
theorem d_D_branch_52 : decode c_D_branch 52 = .ok (.aload_n 0, 1) := by decide +kernel
theorem d_D_branch_53 : decode c_D_branch 53 = .ok (.iload_n 3, 1) := by decide +kernel
theorem d_D_branch_54 : decode c_D_branch 54 = .ok (.ifCond .eq 18, 3) := by decide +kernel
theorem d_D_branch_57 : decode c_D_branch 57 = .ok (.iload 4, 2) := by decide +kernel
theorem d_D_branch_59 : decode c_D_branch 59 = .ok (.ifCond .eq 9, 3) := by decide +kernel
theorem d_D_branch_62 : decode c_D_branch 62 = .ok (.iload_n 2, 1) := by decide +kernel
theorem d_D_branch_63 : decode c_D_branch 63 = .ok (.bipush 8, 2) := by decide +kernel
theorem d_D_branch_65 : decode c_D_branch 65 = .ok (.if_icmp .ne 7, 3) := by decide +kernel
theorem d_D_branch_68 : decode c_D_branch 68 = .ok (.iconst 1, 1) := by decide +kernel
theorem d_D_branch_69 : decode c_D_branch 69 = .ok (.goto 4, 3) := by decide +kernel
theorem d_D_branch_72 : decode c_D_branch 72 = .ok (.iconst 0, 1) := by decide +kernel
theorem d_D_branch_73 : decode c_D_branch 73 = .ok (.putfield 277, 3) := by decide +kernel
theorem d_D_branch_76 : decode c_D_branch 76 = .ok (.return_, 1) := by decide +kernel
theorem kd_D_branch : (y_D_branch).cls = "WindowMachineModel" ∧ (y_D_branch).cls ≠ "java/lang/invoke/MethodHandle" ∧ (y_D_branch).cls ≠ "java/lang/invoke/VarHandle" ∧ (parseMethodDescriptor (y_D_branch).desc).map (fun d => d.parameters.length) = some 1 := by decide +kernel
def m_branch (st : SD) (p0 : Int32) : SD := (let x_1 := (p0 >>> ((25 : Int32) &&& 31)) &&& (15 : Int32); (let x_2 := (if ((p0 >>> ((29 : Int32) &&& 31)) &&& (1 : Int32)) = (1 : Int32) then (1 : Int32) else (0 : Int32)); (let r_5 := m_holds st x_1; (let u_6 := (if r_5 = (0 : Int32) then st else (upd st.1 22 ((st.1 4) + ((p0 <<< ((10 : Int32) &&& 31)) >>> ((8 : Int32) &&& 31))), st.2.1, st.2.2.1, st.2.2.2.1, st.2.2.2.2.1, st.2.2.2.2.2)); (let x_9 := (if x_2 = (0 : Int32) then (0 : Int32) else (if r_5 = (0 : Int32) then (1 : Int32) else (if x_1 = (8 : Int32) then (1 : Int32) else (0 : Int32)))); (upd u_6.1 20 x_9, u_6.2.1, u_6.2.2.1, u_6.2.2.2.1, u_6.2.2.2.2.1, u_6.2.2.2.2.2))))))
set_option maxHeartbeats 4000000 in
set_option maxRecDepth 100000 in
theorem mt_D_branch (l : Launch) (D : va_G) (h : Nat → Nat) (c : Nat → ClassId) (sz : Nat) (st : SD) (p0 : Int32) : Met l y_D_branch w_D_branch ({ frames := 1, cells := 0, slots := 0, locals := 23 }) (va_Pc [.ref (h 20), .int p0] (zw_pre D vwCl [(c 21, .long), (c 22, .int), (c 23, .int), (c 24, .int), (c 25, .int), (c 26, .int), (c 27, .int), (c 28, .int)] sz (wD h c st) (fun _ => True))) (va_Qv (fun (u : SD) => u = m_branch st p0) (fun u t => zw_at D vwCl (va_A (wD h c st) sz) ((fun (u : SD) => wD h c u) u) t) (va_A (wD h c st) sz)) 0 0 (va_A (wD h c st) sz) := by
  refine zm (Qf := fun A => va_Qv (fun (u : SD) => u = m_branch st p0) (fun u t => zw_at D vwCl A ((fun (u : SD) => wD h c u) u) t) A) (Zf := fun _ _ => True) (cc := c_D_branch) (nL := 5) (ret := none) (by decide) rfl (Nat.le_of_ble_eq_true rfl) ?_
  intro p e s m below meth c9 A H locs ls hx hb hml hown hts hr hlocks hA hK hP hD hS hZ hl
  have hl : lv_has ls 5 [(0, .ref (h 20)), (1, .int p0)] := hl
  have ht : ∀ w9 ∈ zT, w9.before _ s = true := fun w9 h9 => hts w9 (List.mem_cons_of_mem _ h9)
  refine lv_iload_n hx hb d_D_branch_0 rfl (lv_at hl 1 rfl) ?_
  refine lv_bipush (v := (25 : Int32)) hx hb d_D_branch_1 (by decide) ?_
  refine lv_ishr hx hb d_D_branch_3 ?_
  refine lv_bipush (v := (15 : Int32)) hx hb d_D_branch_4 (by decide) ?_
  refine lv_iand hx hb d_D_branch_6 ?_
  refine lv_topi (fun x_1 ex_1 => ?_)
  refine lv_istore_n (lv' := [(2, .int x_1), (0, .ref (h 20)), (1, .int p0)]) hx hb d_D_branch_7 rfl hl (by decide) rfl (fun ls hl => ?_)
  refine lv_iload_n hx hb d_D_branch_8 rfl (lv_at hl 2 rfl) ?_
  refine lv_bipush (v := (29 : Int32)) hx hb d_D_branch_9 (by decide) ?_
  refine lv_ishr hx hb d_D_branch_11 ?_
  refine lv_iconst (v := (1 : Int32)) hx hb d_D_branch_12 (by decide) ?_
  refine lv_iand hx hb d_D_branch_13 ?_
  refine lv_iconst (v := (1 : Int32)) hx hb d_D_branch_14 (by decide) ?_
  refine zcut (X := Int32) (G := fun v9 H locs ls => v9 = (if ((p0 >>> ((29 : Int32) &&& 31)) &&& (1 : Int32)) = (1 : Int32) then (1 : Int32) else (0 : Int32)) ∧ va_P D vwCl (wD h c st) H ∧ va_D A (wD h c st) ∧ va_S A s.heap H locs ∧ lv_has ls 5 [(0, .ref (h 20)), (1, .int p0), (2, .int x_1)]) (fr := fun v9 ls => F0 m 23 ls [.int v9]) (fun J_3 => ?_) (fun v9 H locs ls hG => ?_)
  · refine lv_icmp_ne (tgt := 22) hx hb d_D_branch_15 (by decide) (fun c_4 => ?_) (fun c_4 => ?_)
    · refine lv_iconst (v := (0 : Int32)) hx hb d_D_branch_22 (by decide) ?_
      exact J_3 (0 : Int32) _ _ _ ⟨by simp only [if_neg c_4], hP, hD, hS, (lv_sub hl [1, 2, 0] rfl)⟩
    refine lv_iconst (v := (1 : Int32)) hx hb d_D_branch_18 (by decide) ?_
    refine lv_goto (tgt := 23) hx hb d_D_branch_19 (by decide) ?_
    exact J_3 (1 : Int32) _ _ _ ⟨by simp only [if_pos c_4], hP, hD, hS, (lv_sub hl [1, 2, 0] rfl)⟩
  obtain ⟨x_2, rfl⟩ : ∃ z, z = v9 := ⟨_, rfl⟩
  obtain ⟨ex_2, hP, hD, hS, hl⟩ := hG
  have zbx_2 : zB x_2 := by rw [ex_2]; repeat' first | exact zB0 | exact zB1 | assumption | apply zB_ite
  refine lv_istore_n (lv' := [(3, .int x_2), (0, .ref (h 20)), (1, .int p0), (2, .int x_1)]) hx hb d_D_branch_23 rfl hl (by decide) rfl (fun ls hl => ?_)
  refine lv_aload_n hx hb d_D_branch_24 rfl (lv_at hl 1 rfl) ?_
  refine lv_iload_n hx hb d_D_branch_25 rfl (lv_at hl 3 rfl) ?_
  refine zc_i (w2 := fun _ => wD h c st) (va_runV (As := [.int x_1]) (rest := []) ⟨hx, hb, hml, hown, ht⟩ (mt_D_holds l D h c H.size st x_1) (cwV 1 ht (zgV zw_1019 zw_1021 zs_62 zw_7 zw_1022) rfl rfl rfl kd_D_holds ⟨Nat.le_of_ble_eq_true rfl, Nat.le_of_ble_eq_true rfl⟩) ⟨zw_blind zw_tt, va_recv (hK.sub (tys' := [(c 21, .long), (c 22, .int), (c 23, .int), (c 24, .int), (c 25, .int), (c 26, .int), (c 27, .int), (c 28, .int)]) [0, 1, 2, 3, 4, 5, 6, 7] rfl) (hP.sub (ws' := wD h c st) [0, 1, 2, 3, 4, 5, 6, 7, 8] rfl) (ci := 6) (q0 := 0) rfl rfl, zw_go (hP.sub (ws' := wD h c st) [0, 1, 2, 3, 4, 5, 6, 7, 8] rfl) (hD.sub (ws' := wD h c st) [0, 1, 2, 3, 4, 5, 6, 7, 8] (by decide) rfl) (hK.sub (tys' := [(c 21, .long), (c 22, .int), (c 23, .int), (c 24, .int), (c 25, .int), (c 26, .int), (c 27, .int), (c 28, .int)]) [0, 1, 2, 3, 4, 5, 6, 7] rfl) (fun _ _ _ => trivial)⟩ rfl rfl hl.1 rfl (lv_room (Nat.le_of_ble_eq_true rfl)) d_D_branch_26 ⟨Nat.le_of_ble_eq_true rfl, Nat.le_of_ble_eq_true rfl⟩) hP hD hS hA [0, 1, 2, 3, 4, 5, 6, 7, 8] [] [0, 1, 2, 3, 4, 5, 6, 7, 8] rfl rfl (by decide) (by decide) (by decide) (fun _ => rfl) (fun r_5 _ H locs hw hP hD hS => ?_)
  have er_5 := hw
  refine lv_istore (lv' := [(4, .int r_5), (3, .int x_2), (0, .ref (h 20)), (1, .int p0), (2, .int x_1)]) hx hb d_D_branch_29 hl (by decide) rfl (fun ls hl => ?_)
  refine lv_iload hx hb d_D_branch_31 (lv_at hl 0 rfl) ?_
  refine zcut (X := SD) (G := fun v9 H locs ls => v9 = (if r_5 = (0 : Int32) then st else (upd st.1 22 ((st.1 4) + ((p0 <<< ((10 : Int32) &&& 31)) >>> ((8 : Int32) &&& 31))), st.2.1, st.2.2.1, st.2.2.2.1, st.2.2.2.2.1, st.2.2.2.2.2)) ∧ va_P D vwCl (wD h c v9) H ∧ va_D A (wD h c v9) ∧ va_S A s.heap H locs ∧ lv_has ls 5 [(0, .ref (h 20)), (1, .int p0), (2, .int x_1), (3, .int x_2), (4, .int r_5)]) (fr := fun v9 ls => F0 m 52 ls []) (fun J_7 => ?_) (fun v9 H locs ls hG => ?_)
  · refine lv_if_eq (tgt := 52) hx hb d_D_branch_33 (by decide) (fun c_8 => ?_) (fun c_8 => ?_)
    · exact J_7 st _ _ _ ⟨by simp only [if_pos c_8], hP, hD, hS, (lv_sub hl [2, 3, 4, 1, 0] rfl)⟩
    refine lv_aload_n hx hb d_D_branch_36 rfl (lv_at hl 2 rfl) ?_
    refine lv_aload_n hx hb d_D_branch_37 rfl (lv_at hl 2 rfl) ?_
    refine va_get (D := D) (ci := 6) (v := .int (st.1 4)) (C := "WindowMachineModel") (T := T_D) (N := 31) hx hb ht zi_D hown hK hP 0 rfl rfl 12 (by decide) (ht _ zw_866) (fun _ h9 => h9) rfl d_D_branch_38 ?_
    refine lv_iload_n hx hb d_D_branch_41 rfl (lv_at hl 3 rfl) ?_
    refine lv_bipush (v := (10 : Int32)) hx hb d_D_branch_42 (by decide) ?_
    refine lv_ishl hx hb d_D_branch_44 ?_
    refine lv_bipush (v := (8 : Int32)) hx hb d_D_branch_45 (by decide) ?_
    refine lv_ishr hx hb d_D_branch_47 ?_
    refine lv_iadd hx hb d_D_branch_48 ?_
    refine va_put (D := D) (ci := 6) (v := .int ((st.1 4) + ((p0 <<< ((10 : Int32) &&& 31)) >>> ((8 : Int32) &&& 31)))) (ty := .int) (C := "WindowMachineModel") (T := T_D) (N := 31) hx hb ht zi_D ty_D tyok_D nm_D hown hK hP hD hS 0 rfl rfl 30 (by decide) (ht _ zw_884) (fun _ h9 => h9) rfl (by decide +kernel) rfl rfl (Nat.le_of_ble_eq_true rfl) d_D_branch_49 (fun H locs hP hD hS => ?_)
    have hP : va_P D vwCl (wD h c (upd st.1 22 ((st.1 4) + ((p0 <<< ((10 : Int32) &&& 31)) >>> ((8 : Int32) &&& 31))), st.2.1, st.2.2.1, st.2.2.2.1, st.2.2.2.2.1, st.2.2.2.2.2)) H := hP
    have hD : va_D A (wD h c (upd st.1 22 ((st.1 4) + ((p0 <<< ((10 : Int32) &&& 31)) >>> ((8 : Int32) &&& 31))), st.2.1, st.2.2.1, st.2.2.2.1, st.2.2.2.2.1, st.2.2.2.2.2)) := hD
    exact J_7 (upd st.1 22 ((st.1 4) + ((p0 <<< ((10 : Int32) &&& 31)) >>> ((8 : Int32) &&& 31))), st.2.1, st.2.2.1, st.2.2.2.1, st.2.2.2.2.1, st.2.2.2.2.2) _ _ _ ⟨by simp only [if_neg c_8], hP, hD, hS, (lv_sub hl [2, 3, 4, 1, 0] rfl)⟩
  obtain ⟨u_6, rfl⟩ : ∃ z, z = v9 := ⟨_, rfl⟩
  obtain ⟨eu_6, hP, hD, hS, hl⟩ := hG
  refine lv_aload_n hx hb d_D_branch_52 rfl (lv_at hl 0 rfl) ?_
  refine lv_iload_n hx hb d_D_branch_53 rfl (lv_at hl 3 rfl) ?_
  refine zcut (X := Int32) (G := fun v9 H locs ls => v9 = (if x_2 = (0 : Int32) then (0 : Int32) else (if r_5 = (0 : Int32) then (1 : Int32) else (if x_1 = (8 : Int32) then (1 : Int32) else (0 : Int32)))) ∧ va_P D vwCl (wD h c u_6) H ∧ va_D A (wD h c u_6) ∧ va_S A s.heap H locs ∧ lv_has ls 5 [(0, .ref (h 20)), (1, .int p0), (2, .int x_1), (3, .int x_2), (4, .int r_5)]) (fr := fun v9 ls => F0 m 73 ls [.int v9, .ref (h 20)]) (fun J_10 => ?_) (fun v9 H locs ls hG => ?_)
  · refine lv_if_eq (tgt := 72) hx hb d_D_branch_54 (by decide) (fun c_11 => ?_) (fun c_11 => ?_)
    · refine lv_iconst (v := (0 : Int32)) hx hb d_D_branch_72 (by decide) ?_
      exact J_10 (0 : Int32) _ _ _ ⟨by simp only [if_pos c_11], hP, hD, hS, hl⟩
    refine lv_iload hx hb d_D_branch_57 (lv_at hl 4 rfl) ?_
    refine lv_if_eq (tgt := 68) hx hb d_D_branch_59 (by decide) (fun c_12 => ?_) (fun c_12 => ?_)
    · refine lv_iconst (v := (1 : Int32)) hx hb d_D_branch_68 (by decide) ?_
      refine lv_goto (tgt := 73) hx hb d_D_branch_69 (by decide) ?_
      exact J_10 (1 : Int32) _ _ _ ⟨by simp only [if_neg c_11, if_pos c_12], hP, hD, hS, hl⟩
    refine lv_iload_n hx hb d_D_branch_62 rfl (lv_at hl 2 rfl) ?_
    refine lv_bipush (v := (8 : Int32)) hx hb d_D_branch_63 (by decide) ?_
    refine lv_icmp_ne (tgt := 72) hx hb d_D_branch_65 (by decide) (fun c_13 => ?_) (fun c_13 => ?_)
    · refine lv_iconst (v := (0 : Int32)) hx hb d_D_branch_72 (by decide) ?_
      exact J_10 (0 : Int32) _ _ _ ⟨by simp only [if_neg c_11, if_neg c_12, if_neg c_13], hP, hD, hS, hl⟩
    refine lv_iconst (v := (1 : Int32)) hx hb d_D_branch_68 (by decide) ?_
    refine lv_goto (tgt := 73) hx hb d_D_branch_69 (by decide) ?_
    exact J_10 (1 : Int32) _ _ _ ⟨by simp only [if_neg c_11, if_neg c_12, if_pos c_13], hP, hD, hS, hl⟩
  obtain ⟨x_9, rfl⟩ : ∃ z, z = v9 := ⟨_, rfl⟩
  obtain ⟨ex_9, hP, hD, hS, hl⟩ := hG
  have zbx_9 : zB x_9 := by rw [ex_9]; repeat' first | exact zB0 | exact zB1 | assumption | apply zB_ite
  refine va_put (D := D) (ci := 6) (v := .int x_9) (ty := .boolean) (C := "WindowMachineModel") (T := T_D) (N := 31) hx hb ht zi_D ty_D tyok_D nm_D hown hK hP hD hS 0 rfl rfl 28 (by decide) (ht _ zw_882) (fun _ h9 => h9) rfl (by decide +kernel) (zbx_9).n (zbx_9).f (Nat.le_of_ble_eq_true rfl) d_D_branch_73 (fun H locs hP hD hS => ?_)
  have hP : va_P D vwCl (wD h c (upd u_6.1 20 x_9, u_6.2.1, u_6.2.2.1, u_6.2.2.2.1, u_6.2.2.2.2.1, u_6.2.2.2.2.2)) H := hP
  have hD : va_D A (wD h c (upd u_6.1 20 x_9, u_6.2.1, u_6.2.2.1, u_6.2.2.2.1, u_6.2.2.2.2.1, u_6.2.2.2.2.2)) := hD
  exact zl_v (u := (upd u_6.1 20 x_9, u_6.2.1, u_6.2.2.1, u_6.2.2.2.1, u_6.2.2.2.2.1, u_6.2.2.2.2.2)) hx hb hr hlocks hS hP hD (by simp only [m_branch, ← ex_1, ← ex_2, ← er_5, ← eu_6, ← ex_9]) d_D_branch_76
theorem d_D_psr_0 : decode c_D_psr 0 = .ok (.aload_n 0, 1) := by decide +kernel
theorem d_D_psr_1 : decode c_D_psr 1 = .ok (.getfield 255, 3) := by decide +kernel
theorem d_D_psr_4 : decode c_D_psr 4 = .ok (.invokestatic 355, 3) := by decide +kernel
theorem d_D_psr_7 : decode c_D_psr 7 = .ok (.bipush 23, 2) := by decide +kernel
theorem d_D_psr_9 : decode c_D_psr 9 = .ok (.ishl, 1) := by decide +kernel
theorem d_D_psr_10 : decode c_D_psr 10 = .ok (.aload_n 0, 1) := by decide +kernel
theorem d_D_psr_11 : decode c_D_psr 11 = .ok (.getfield 259, 3) := by decide +kernel
theorem d_D_psr_14 : decode c_D_psr 14 = .ok (.invokestatic 355, 3) := by decide +kernel
theorem d_D_psr_17 : decode c_D_psr 17 = .ok (.bipush 22, 2) := by decide +kernel
theorem d_D_psr_19 : decode c_D_psr 19 = .ok (.ishl, 1) := by decide +kernel
theorem d_D_psr_20 : decode c_D_psr 20 = .ok (.ior, 1) := by decide +kernel
theorem d_D_psr_21 : decode c_D_psr 21 = .ok (.aload_n 0, 1) := by decide +kernel
theorem d_D_psr_22 : decode c_D_psr 22 = .ok (.getfield 262, 3) := by decide +kernel
theorem d_D_psr_25 : decode c_D_psr 25 = .ok (.invokestatic 355, 3) := by decide +kernel
theorem d_D_psr_28 : decode c_D_psr 28 = .ok (.bipush 21, 2) := by decide +kernel
theorem d_D_psr_30 : decode c_D_psr 30 = .ok (.ishl, 1) := by decide +kernel
theorem d_D_psr_31 : decode c_D_psr 31 = .ok (.ior, 1) := by decide +kernel
theorem d_D_psr_32 : decode c_D_psr 32 = .ok (.aload_n 0, 1) := by decide +kernel
theorem d_D_psr_33 : decode c_D_psr 33 = .ok (.getfield 265, 3) := by decide +kernel
theorem d_D_psr_36 : decode c_D_psr 36 = .ok (.invokestatic 355, 3) := by decide +kernel
theorem d_D_psr_39 : decode c_D_psr 39 = .ok (.bipush 20, 2) := by decide +kernel
theorem d_D_psr_41 : decode c_D_psr 41 = .ok (.ishl, 1) := by decide +kernel
theorem d_D_psr_42 : decode c_D_psr 42 = .ok (.ior, 1) := by decide +kernel
theorem d_D_psr_43 : decode c_D_psr 43 = .ok (.aload_n 0, 1) := by decide +kernel
theorem d_D_psr_44 : decode c_D_psr 44 = .ok (.getfield 268, 3) := by decide +kernel
theorem d_D_psr_47 : decode c_D_psr 47 = .ok (.invokestatic 355, 3) := by decide +kernel
theorem d_D_psr_50 : decode c_D_psr 50 = .ok (.bipush 7, 2) := by decide +kernel
theorem d_D_psr_52 : decode c_D_psr 52 = .ok (.ishl, 1) := by decide +kernel
theorem d_D_psr_53 : decode c_D_psr 53 = .ok (.ior, 1) := by decide +kernel
theorem d_D_psr_54 : decode c_D_psr 54 = .ok (.aload_n 0, 1) := by decide +kernel
theorem d_D_psr_55 : decode c_D_psr 55 = .ok (.getfield 271, 3) := by decide +kernel
theorem d_D_psr_58 : decode c_D_psr 58 = .ok (.invokestatic 355, 3) := by decide +kernel
theorem d_D_psr_61 : decode c_D_psr 61 = .ok (.bipush 6, 2) := by decide +kernel
theorem d_D_psr_63 : decode c_D_psr 63 = .ok (.ishl, 1) := by decide +kernel
theorem d_D_psr_64 : decode c_D_psr 64 = .ok (.ior, 1) := by decide +kernel
theorem d_D_psr_65 : decode c_D_psr 65 = .ok (.aload_n 0, 1) := by decide +kernel
theorem d_D_psr_66 : decode c_D_psr 66 = .ok (.getfield 274, 3) := by decide +kernel
theorem d_D_psr_69 : decode c_D_psr 69 = .ok (.invokestatic 355, 3) := by decide +kernel
theorem d_D_psr_72 : decode c_D_psr 72 = .ok (.iconst 5, 1) := by decide +kernel
theorem d_D_psr_73 : decode c_D_psr 73 = .ok (.ishl, 1) := by decide +kernel
theorem d_D_psr_74 : decode c_D_psr 74 = .ok (.ior, 1) := by decide +kernel
theorem d_D_psr_75 : decode c_D_psr 75 = .ok (.aload_n 0, 1) := by decide +kernel
theorem d_D_psr_76 : decode c_D_psr 76 = .ok (.getfield 237, 3) := by decide +kernel
theorem d_D_psr_79 : decode c_D_psr 79 = .ok (.ior, 1) := by decide +kernel
theorem d_D_psr_80 : decode c_D_psr 80 = .ok (.ireturn, 1) := by decide +kernel
theorem kd_D_psr : (y_D_psr).cls = "WindowMachineModel" ∧ (y_D_psr).cls ≠ "java/lang/invoke/MethodHandle" ∧ (y_D_psr).cls ≠ "java/lang/invoke/VarHandle" ∧ (parseMethodDescriptor (y_D_psr).desc).map (fun d => d.parameters.length) = some 0 := by decide +kernel
def m_psr (st : SD) : Int32 := (let r_1 := m_bit (st.1 13); (let r_2 := m_bit (st.1 14); (let r_3 := m_bit (st.1 15); (let r_4 := m_bit (st.1 16); (let r_5 := m_bit (st.1 17); (let r_6 := m_bit (st.1 18); (let r_7 := m_bit (st.1 19); (((((((r_1 <<< ((23 : Int32) &&& 31)) ||| (r_2 <<< ((22 : Int32) &&& 31))) ||| (r_3 <<< ((21 : Int32) &&& 31))) ||| (r_4 <<< ((20 : Int32) &&& 31))) ||| (r_5 <<< ((7 : Int32) &&& 31))) ||| (r_6 <<< ((6 : Int32) &&& 31))) ||| (r_7 <<< ((5 : Int32) &&& 31))) ||| (st.1 6))))))))
set_option maxHeartbeats 4000000 in
set_option maxRecDepth 100000 in
theorem mt_D_psr (l : Launch) (D : va_G) (h : Nat → Nat) (c : Nat → ClassId) (sz : Nat) (st : SD) : Met l y_D_psr w_D_psr ({ frames := 1, cells := 0, slots := 0, locals := 20 }) (va_Pc [.ref (h 20)] (zw_pre D vwCl [(c 21, .long), (c 22, .int), (c 23, .int), (c 24, .int), (c 25, .int), (c 26, .int), (c 27, .int), (c 28, .int)] sz (wD h c st) (fun _ => True))) (va_Qi (fun r (_ : Unit) => r = m_psr st) (fun u t => zw_at D vwCl (va_A (wD h c st) sz) ((fun (_ : Unit) => wD h c st) u) t) (va_A (wD h c st) sz)) 0 0 (va_A (wD h c st) sz) := by
  refine zm (Qf := fun A => va_Qi (fun r (_ : Unit) => r = m_psr st) (fun u t => zw_at D vwCl A ((fun (_ : Unit) => wD h c st) u) t) A) (Zf := fun _ _ => True) (cc := c_D_psr) (nL := 1) (ret := (some .int)) (by decide) rfl (Nat.le_of_ble_eq_true rfl) ?_
  intro p e s m below meth c9 A H locs ls hx hb hml hown hts hr hlocks hA hK hP hD hS hZ hl
  have hl : lv_has ls 1 [(0, .ref (h 20))] := hl
  have ht : ∀ w9 ∈ zT, w9.before _ s = true := fun w9 h9 => hts w9 (List.mem_cons_of_mem _ h9)
  refine lv_aload_n hx hb d_D_psr_0 rfl (lv_at hl 0 rfl) ?_
  refine va_get (D := D) (ci := 6) (v := .int (st.1 13)) (C := "WindowMachineModel") (T := T_D) (N := 31) hx hb ht zi_D hown hK hP 0 rfl rfl 21 (by decide) (ht _ zw_875) (fun _ h9 => h9) rfl d_D_psr_1 ?_
  refine zc_i (w2 := fun _ => wD h c st) (va_runS (As := [.int (st.1 13)]) (rest := []) ⟨hx, hb, hml, hown, ht⟩ (mt_D_bit l D H.size (st.1 13)) (cwS 1 ht (zgS zw_1043 zw_1044 zw_7 zw_1045) rfl rfl rfl kd_D_bit ⟨Nat.le_of_ble_eq_true rfl, Nat.le_of_ble_eq_true rfl⟩) ⟨zw_blind zw_tt, zw_go (hP.sub (ws' := []) [] rfl) (hD.sub (ws' := []) [] (by decide) rfl) (hK.sub (tys' := []) [] rfl) (fun _ _ _ => trivial)⟩ rfl rfl hl.1 rfl (lv_room (Nat.le_of_ble_eq_true rfl)) d_D_psr_4 ⟨Nat.le_of_ble_eq_true rfl, Nat.le_of_ble_eq_true rfl⟩) hP hD hS hA [] [0, 1, 2, 3, 4, 5, 6, 7, 8] [0, 1, 2, 3, 4, 5, 6, 7, 8] rfl rfl (by decide) (by decide) (by decide) (fun _ => rfl) (fun r_1 _ H locs hw hP hD hS => ?_)
  have er_1 := hw
  refine lv_bipush (v := (23 : Int32)) hx hb d_D_psr_7 (by decide) ?_
  refine lv_ishl hx hb d_D_psr_9 ?_
  refine lv_aload_n hx hb d_D_psr_10 rfl (lv_at hl 0 rfl) ?_
  refine va_get (D := D) (ci := 6) (v := .int (st.1 14)) (C := "WindowMachineModel") (T := T_D) (N := 31) hx hb ht zi_D hown hK hP 0 rfl rfl 22 (by decide) (ht _ zw_876) (fun _ h9 => h9) rfl d_D_psr_11 ?_
  refine zc_i (w2 := fun _ => wD h c st) (va_runS (As := [.int (st.1 14)]) (rest := [.int (r_1 <<< ((23 : Int32) &&& 31))]) ⟨hx, hb, hml, hown, ht⟩ (mt_D_bit l D H.size (st.1 14)) (cwS 1 ht (zgS zw_1043 zw_1044 zw_7 zw_1045) rfl rfl rfl kd_D_bit ⟨Nat.le_of_ble_eq_true rfl, Nat.le_of_ble_eq_true rfl⟩) ⟨zw_blind zw_tt, zw_go (hP.sub (ws' := []) [] rfl) (hD.sub (ws' := []) [] (by decide) rfl) (hK.sub (tys' := []) [] rfl) (fun _ _ _ => trivial)⟩ rfl rfl hl.1 rfl (lv_room (Nat.le_of_ble_eq_true rfl)) d_D_psr_14 ⟨Nat.le_of_ble_eq_true rfl, Nat.le_of_ble_eq_true rfl⟩) hP hD hS hA [] [0, 1, 2, 3, 4, 5, 6, 7, 8] [0, 1, 2, 3, 4, 5, 6, 7, 8] rfl rfl (by decide) (by decide) (by decide) (fun _ => rfl) (fun r_2 _ H locs hw hP hD hS => ?_)
  have er_2 := hw
  refine lv_bipush (v := (22 : Int32)) hx hb d_D_psr_17 (by decide) ?_
  refine lv_ishl hx hb d_D_psr_19 ?_
  refine lv_ior hx hb d_D_psr_20 ?_
  refine lv_aload_n hx hb d_D_psr_21 rfl (lv_at hl 0 rfl) ?_
  refine va_get (D := D) (ci := 6) (v := .int (st.1 15)) (C := "WindowMachineModel") (T := T_D) (N := 31) hx hb ht zi_D hown hK hP 0 rfl rfl 23 (by decide) (ht _ zw_877) (fun _ h9 => h9) rfl d_D_psr_22 ?_
  refine zc_i (w2 := fun _ => wD h c st) (va_runS (As := [.int (st.1 15)]) (rest := [.int ((r_1 <<< ((23 : Int32) &&& 31)) ||| (r_2 <<< ((22 : Int32) &&& 31)))]) ⟨hx, hb, hml, hown, ht⟩ (mt_D_bit l D H.size (st.1 15)) (cwS 1 ht (zgS zw_1043 zw_1044 zw_7 zw_1045) rfl rfl rfl kd_D_bit ⟨Nat.le_of_ble_eq_true rfl, Nat.le_of_ble_eq_true rfl⟩) ⟨zw_blind zw_tt, zw_go (hP.sub (ws' := []) [] rfl) (hD.sub (ws' := []) [] (by decide) rfl) (hK.sub (tys' := []) [] rfl) (fun _ _ _ => trivial)⟩ rfl rfl hl.1 rfl (lv_room (Nat.le_of_ble_eq_true rfl)) d_D_psr_25 ⟨Nat.le_of_ble_eq_true rfl, Nat.le_of_ble_eq_true rfl⟩) hP hD hS hA [] [0, 1, 2, 3, 4, 5, 6, 7, 8] [0, 1, 2, 3, 4, 5, 6, 7, 8] rfl rfl (by decide) (by decide) (by decide) (fun _ => rfl) (fun r_3 _ H locs hw hP hD hS => ?_)
  have er_3 := hw
  refine lv_bipush (v := (21 : Int32)) hx hb d_D_psr_28 (by decide) ?_
  refine lv_ishl hx hb d_D_psr_30 ?_
  refine lv_ior hx hb d_D_psr_31 ?_
  refine lv_aload_n hx hb d_D_psr_32 rfl (lv_at hl 0 rfl) ?_
  refine va_get (D := D) (ci := 6) (v := .int (st.1 16)) (C := "WindowMachineModel") (T := T_D) (N := 31) hx hb ht zi_D hown hK hP 0 rfl rfl 24 (by decide) (ht _ zw_878) (fun _ h9 => h9) rfl d_D_psr_33 ?_
  refine zc_i (w2 := fun _ => wD h c st) (va_runS (As := [.int (st.1 16)]) (rest := [.int (((r_1 <<< ((23 : Int32) &&& 31)) ||| (r_2 <<< ((22 : Int32) &&& 31))) ||| (r_3 <<< ((21 : Int32) &&& 31)))]) ⟨hx, hb, hml, hown, ht⟩ (mt_D_bit l D H.size (st.1 16)) (cwS 1 ht (zgS zw_1043 zw_1044 zw_7 zw_1045) rfl rfl rfl kd_D_bit ⟨Nat.le_of_ble_eq_true rfl, Nat.le_of_ble_eq_true rfl⟩) ⟨zw_blind zw_tt, zw_go (hP.sub (ws' := []) [] rfl) (hD.sub (ws' := []) [] (by decide) rfl) (hK.sub (tys' := []) [] rfl) (fun _ _ _ => trivial)⟩ rfl rfl hl.1 rfl (lv_room (Nat.le_of_ble_eq_true rfl)) d_D_psr_36 ⟨Nat.le_of_ble_eq_true rfl, Nat.le_of_ble_eq_true rfl⟩) hP hD hS hA [] [0, 1, 2, 3, 4, 5, 6, 7, 8] [0, 1, 2, 3, 4, 5, 6, 7, 8] rfl rfl (by decide) (by decide) (by decide) (fun _ => rfl) (fun r_4 _ H locs hw hP hD hS => ?_)
  have er_4 := hw
  refine lv_bipush (v := (20 : Int32)) hx hb d_D_psr_39 (by decide) ?_
  refine lv_ishl hx hb d_D_psr_41 ?_
  refine lv_ior hx hb d_D_psr_42 ?_
  refine lv_aload_n hx hb d_D_psr_43 rfl (lv_at hl 0 rfl) ?_
  refine va_get (D := D) (ci := 6) (v := .int (st.1 17)) (C := "WindowMachineModel") (T := T_D) (N := 31) hx hb ht zi_D hown hK hP 0 rfl rfl 25 (by decide) (ht _ zw_879) (fun _ h9 => h9) rfl d_D_psr_44 ?_
  refine zc_i (w2 := fun _ => wD h c st) (va_runS (As := [.int (st.1 17)]) (rest := [.int ((((r_1 <<< ((23 : Int32) &&& 31)) ||| (r_2 <<< ((22 : Int32) &&& 31))) ||| (r_3 <<< ((21 : Int32) &&& 31))) ||| (r_4 <<< ((20 : Int32) &&& 31)))]) ⟨hx, hb, hml, hown, ht⟩ (mt_D_bit l D H.size (st.1 17)) (cwS 1 ht (zgS zw_1043 zw_1044 zw_7 zw_1045) rfl rfl rfl kd_D_bit ⟨Nat.le_of_ble_eq_true rfl, Nat.le_of_ble_eq_true rfl⟩) ⟨zw_blind zw_tt, zw_go (hP.sub (ws' := []) [] rfl) (hD.sub (ws' := []) [] (by decide) rfl) (hK.sub (tys' := []) [] rfl) (fun _ _ _ => trivial)⟩ rfl rfl hl.1 rfl (lv_room (Nat.le_of_ble_eq_true rfl)) d_D_psr_47 ⟨Nat.le_of_ble_eq_true rfl, Nat.le_of_ble_eq_true rfl⟩) hP hD hS hA [] [0, 1, 2, 3, 4, 5, 6, 7, 8] [0, 1, 2, 3, 4, 5, 6, 7, 8] rfl rfl (by decide) (by decide) (by decide) (fun _ => rfl) (fun r_5 _ H locs hw hP hD hS => ?_)
  have er_5 := hw
  refine lv_bipush (v := (7 : Int32)) hx hb d_D_psr_50 (by decide) ?_
  refine lv_ishl hx hb d_D_psr_52 ?_
  refine lv_ior hx hb d_D_psr_53 ?_
  refine lv_aload_n hx hb d_D_psr_54 rfl (lv_at hl 0 rfl) ?_
  refine va_get (D := D) (ci := 6) (v := .int (st.1 18)) (C := "WindowMachineModel") (T := T_D) (N := 31) hx hb ht zi_D hown hK hP 0 rfl rfl 26 (by decide) (ht _ zw_880) (fun _ h9 => h9) rfl d_D_psr_55 ?_
  refine zc_i (w2 := fun _ => wD h c st) (va_runS (As := [.int (st.1 18)]) (rest := [.int (((((r_1 <<< ((23 : Int32) &&& 31)) ||| (r_2 <<< ((22 : Int32) &&& 31))) ||| (r_3 <<< ((21 : Int32) &&& 31))) ||| (r_4 <<< ((20 : Int32) &&& 31))) ||| (r_5 <<< ((7 : Int32) &&& 31)))]) ⟨hx, hb, hml, hown, ht⟩ (mt_D_bit l D H.size (st.1 18)) (cwS 1 ht (zgS zw_1043 zw_1044 zw_7 zw_1045) rfl rfl rfl kd_D_bit ⟨Nat.le_of_ble_eq_true rfl, Nat.le_of_ble_eq_true rfl⟩) ⟨zw_blind zw_tt, zw_go (hP.sub (ws' := []) [] rfl) (hD.sub (ws' := []) [] (by decide) rfl) (hK.sub (tys' := []) [] rfl) (fun _ _ _ => trivial)⟩ rfl rfl hl.1 rfl (lv_room (Nat.le_of_ble_eq_true rfl)) d_D_psr_58 ⟨Nat.le_of_ble_eq_true rfl, Nat.le_of_ble_eq_true rfl⟩) hP hD hS hA [] [0, 1, 2, 3, 4, 5, 6, 7, 8] [0, 1, 2, 3, 4, 5, 6, 7, 8] rfl rfl (by decide) (by decide) (by decide) (fun _ => rfl) (fun r_6 _ H locs hw hP hD hS => ?_)
  have er_6 := hw
  refine lv_bipush (v := (6 : Int32)) hx hb d_D_psr_61 (by decide) ?_
  refine lv_ishl hx hb d_D_psr_63 ?_
  refine lv_ior hx hb d_D_psr_64 ?_
  refine lv_aload_n hx hb d_D_psr_65 rfl (lv_at hl 0 rfl) ?_
  refine va_get (D := D) (ci := 6) (v := .int (st.1 19)) (C := "WindowMachineModel") (T := T_D) (N := 31) hx hb ht zi_D hown hK hP 0 rfl rfl 27 (by decide) (ht _ zw_881) (fun _ h9 => h9) rfl d_D_psr_66 ?_
  refine zc_i (w2 := fun _ => wD h c st) (va_runS (As := [.int (st.1 19)]) (rest := [.int ((((((r_1 <<< ((23 : Int32) &&& 31)) ||| (r_2 <<< ((22 : Int32) &&& 31))) ||| (r_3 <<< ((21 : Int32) &&& 31))) ||| (r_4 <<< ((20 : Int32) &&& 31))) ||| (r_5 <<< ((7 : Int32) &&& 31))) ||| (r_6 <<< ((6 : Int32) &&& 31)))]) ⟨hx, hb, hml, hown, ht⟩ (mt_D_bit l D H.size (st.1 19)) (cwS 1 ht (zgS zw_1043 zw_1044 zw_7 zw_1045) rfl rfl rfl kd_D_bit ⟨Nat.le_of_ble_eq_true rfl, Nat.le_of_ble_eq_true rfl⟩) ⟨zw_blind zw_tt, zw_go (hP.sub (ws' := []) [] rfl) (hD.sub (ws' := []) [] (by decide) rfl) (hK.sub (tys' := []) [] rfl) (fun _ _ _ => trivial)⟩ rfl rfl hl.1 rfl (lv_room (Nat.le_of_ble_eq_true rfl)) d_D_psr_69 ⟨Nat.le_of_ble_eq_true rfl, Nat.le_of_ble_eq_true rfl⟩) hP hD hS hA [] [0, 1, 2, 3, 4, 5, 6, 7, 8] [0, 1, 2, 3, 4, 5, 6, 7, 8] rfl rfl (by decide) (by decide) (by decide) (fun _ => rfl) (fun r_7 _ H locs hw hP hD hS => ?_)
  have er_7 := hw
  refine lv_iconst (v := (5 : Int32)) hx hb d_D_psr_72 (by decide) ?_
  refine lv_ishl hx hb d_D_psr_73 ?_
  refine lv_ior hx hb d_D_psr_74 ?_
  refine lv_aload_n hx hb d_D_psr_75 rfl (lv_at hl 0 rfl) ?_
  refine va_get (D := D) (ci := 6) (v := .int (st.1 6)) (C := "WindowMachineModel") (T := T_D) (N := 31) hx hb ht zi_D hown hK hP 0 rfl rfl 14 (by decide) (ht _ zw_868) (fun _ h9 => h9) rfl d_D_psr_76 ?_
  refine lv_ior hx hb d_D_psr_79 ?_
  exact zl_i (u := ()) hx hb hr hlocks hS hP hD (by simp only [m_psr, ← er_1, ← er_2, ← er_3, ← er_4, ← er_5, ← er_6, ← er_7]) d_D_psr_80
theorem d_D_here_0 : decode c_D_here 0 = .ok (.aload_n 0, 1) := by decide +kernel
theorem d_D_here_1 : decode c_D_here 1 = .ok (.getfield 413, 3) := by decide +kernel
theorem d_D_here_4 : decode c_D_here 4 = .ok (.aload_n 0, 1) := by decide +kernel
theorem d_D_here_5 : decode c_D_here 5 = .ok (.getfield 410, 3) := by decide +kernel
theorem d_D_here_8 : decode c_D_here 8 = .ok (.if_icmp .ge 15, 3) := by decide +kernel
theorem d_D_here_11 : decode c_D_here 11 = .ok (.aload_n 0, 1) := by decide +kernel
theorem d_D_here_12 : decode c_D_here 12 = .ok (.getfield 206, 3) := by decide +kernel
theorem d_D_here_15 : decode c_D_here 15 = .ok (.aload_n 0, 1) := by decide +kernel
theorem d_D_here_16 : decode c_D_here 16 = .ok (.getfield 413, 3) := by decide +kernel
theorem d_D_here_19 : decode c_D_here 19 = .ok (.iaload, 1) := by decide +kernel
theorem d_D_here_20 : decode c_D_here 20 = .ok (.goto 4, 3) := by decide +kernel
theorem d_D_here_23 : decode c_D_here 23 = .ok (.iconst 0, 1) := by decide +kernel
theorem d_D_here_24 : decode c_D_here 24 = .ok (.ireturn, 1) := by decide +kernel
theorem kd_D_here : (y_D_here).cls = "WindowMachineModel" ∧ (y_D_here).cls ≠ "java/lang/invoke/MethodHandle" ∧ (y_D_here).cls ≠ "java/lang/invoke/VarHandle" ∧ (parseMethodDescriptor (y_D_here).desc).map (fun d => d.parameters.length) = some 0 := by decide +kernel
def m_here (st : SD) : Int32 := (let x_1 := (if (st.1 1) ≤ (st.1 3) then (0 : Int32) else st.2.1 (st.1 3).toNatClampNeg); x_1)
set_option maxHeartbeats 4000000 in
set_option maxRecDepth 100000 in
theorem mt_D_here (l : Launch) (D : va_G) (h : Nat → Nat) (c : Nat → ClassId) (sz : Nat) (st : SD) (hA9 : 0 ≤ (st.1 3).toInt ∧ (st.1 1).toInt ≤ 40) : Met l y_D_here w_D_here ({ frames := 0, cells := 0, slots := 0, locals := 0 }) (va_Pc [.ref (h 20)] (zw_pre D vwCl [(c 21, .long), (c 22, .int), (c 23, .int), (c 24, .int), (c 25, .int), (c 26, .int), (c 27, .int), (c 28, .int)] sz (wD h c st) (fun _ => True))) (va_Qi (fun r (_ : Unit) => r = m_here st) (fun u t => zw_at D vwCl (va_A (wD h c st) sz) ((fun (_ : Unit) => wD h c st) u) t) (va_A (wD h c st) sz)) 0 0 (va_A (wD h c st) sz) := by
  refine zm (Qf := fun A => va_Qi (fun r (_ : Unit) => r = m_here st) (fun u t => zw_at D vwCl A ((fun (_ : Unit) => wD h c st) u) t) A) (Zf := fun _ _ => True) (cc := c_D_here) (nL := 1) (ret := (some .int)) (by decide) rfl (Nat.le_of_ble_eq_true rfl) ?_
  intro p e s m below meth c9 A H locs ls hx hb hml hown hts hr hlocks hA hK hP hD hS hZ hl
  have hl : lv_has ls 1 [(0, .ref (h 20))] := hl
  have ht : ∀ w9 ∈ zT, w9.before _ s = true := fun w9 h9 => hts w9 (List.mem_cons_of_mem _ h9)
  refine lv_aload_n hx hb d_D_here_0 rfl (lv_at hl 0 rfl) ?_
  refine va_get (D := D) (ci := 6) (v := .int (st.1 3)) (C := "WindowMachineModel") (T := T_D) (N := 31) hx hb ht zi_D hown hK hP 0 rfl rfl 6 (by decide) (ht _ zw_860) (fun _ h9 => h9) rfl d_D_here_1 ?_
  refine lv_aload_n hx hb d_D_here_4 rfl (lv_at hl 0 rfl) ?_
  refine va_get (D := D) (ci := 6) (v := .int (st.1 1)) (C := "WindowMachineModel") (T := T_D) (N := 31) hx hb ht zi_D hown hK hP 0 rfl rfl 4 (by decide) (ht _ zw_858) (fun _ h9 => h9) rfl d_D_here_5 ?_
  refine zcut (X := Int32) (G := fun v9 H locs ls => v9 = (if (st.1 1) ≤ (st.1 3) then (0 : Int32) else st.2.1 (st.1 3).toNatClampNeg) ∧ va_P D vwCl (wD h c st) H ∧ va_D A (wD h c st) ∧ va_S A s.heap H locs ∧ lv_has ls 1 [(0, .ref (h 20))]) (fr := fun v9 ls => F0 m 24 ls [.int v9]) (fun J_2 => ?_) (fun v9 H locs ls hG => ?_)
  · refine lv_icmp_ge (tgt := 23) hx hb d_D_here_8 (by decide) (fun c_3 => ?_) (fun c_3 => ?_)
    · refine lv_iconst (v := (0 : Int32)) hx hb d_D_here_23 (by decide) ?_
      exact J_2 (0 : Int32) _ _ _ ⟨by simp only [if_pos c_3], hP, hD, hS, hl⟩
    refine lv_aload_n hx hb d_D_here_11 rfl (lv_at hl 0 rfl) ?_
    refine va_get (D := D) (ci := 6) (v := .ref (h 24)) (C := "WindowMachineModel") (T := T_D) (N := 31) hx hb ht zi_D hown hK hP 0 rfl rfl 7 (by decide) (ht _ zw_861) (fun _ h9 => h9) rfl d_D_here_12 ?_
    refine lv_aload_n hx hb d_D_here_15 rfl (lv_at hl 0 rfl) ?_
    refine va_get (D := D) (ci := 6) (v := .int (st.1 3)) (C := "WindowMachineModel") (T := T_D) (N := 31) hx hb ht zi_D hown hK hP 0 rfl rfl 6 (by decide) (ht _ zw_860) (fun _ h9 => h9) rfl d_D_here_16 ?_
    refine va_iald hx hb hK hP 4 3 rfl rfl (atD_in hA9 c_3) d_D_here_19 ?_
    refine lv_goto (tgt := 24) hx hb d_D_here_20 (by decide) ?_
    exact J_2 (st.2.1 (st.1 3).toNatClampNeg) _ _ _ ⟨by simp only [if_neg c_3], hP, hD, hS, hl⟩
  obtain ⟨x_1, rfl⟩ : ∃ z, z = v9 := ⟨_, rfl⟩
  obtain ⟨ex_1, hP, hD, hS, hl⟩ := hG
  exact zl_i (u := ()) hx hb hr hlocks hS hP hD (by simp only [m_here, ← ex_1]) d_D_here_24
theorem ov_traps {st : SD} {a b : Int32} (h : okV st) : okV (m_traps st a b) := by
  unfold m_traps
  dsimp only
  repeat' first | with_reducible exact h | with_reducible refine okV_ite ?_ ?_
  exact h
theorem ov_gives {st : SD} {a b v : Int32} (h : okV st) : okV (m_gives st a b v) := by
  unfold m_gives
  dsimp only
  repeat' first | with_reducible exact h | with_reducible refine okV_ite ?_ ?_
  all_goals exact h
theorem ov_flags {st : SD} {r : Int64} {a b : Int32} (h : okV st) : okV (m_flags st r a b) := h
theorem ov_branch {st : SD} {w : Int32} (h : okV st) : okV (m_branch st w) := by
  unfold m_branch
  dsimp only
  unfold okV
  dsimp only
  split <;> exact h
