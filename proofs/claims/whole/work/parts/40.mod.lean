abbrev SD : Type := (Nat → Int32) × (Nat → Int32) × (Nat → Int32) × (Nat → Int32) × (Nat → Int32) × (Nat → Int32)
def nmL : List Int64 := [6579297, 426869285985, 6581857, 426869288545, 29295, 1667461743, 7499640, 426870206328, 6452595, 426869159283, 1852075617, 109278704987745, 7238255, 426869944943, 1919905400, 109278772817528, 2019845217, 109278872757345, 2019718515, 109278872630643, 1819635061, 109278672547189, 1819635059, 109278672547187, 1986618485, 109278839530613, 1986618483, 109278839530611, 109278789399917, 7105651, 7107187, 6386291, 1819307370, 1702257011, 28554795668432242, 452724024691, 7955570, 491563017330, 469920867442, 491278066802, 7959159, 491563020919, 469920871031, 491278070391, 1953785202, 1819042147, 28258, 28276, 25954, 25972, 6646882, 6646900, 27746, 27764, 1969581154, 1969581172, 7562082, 7562100, 1734700642, 1734700660, 7566946, 7566964, 24930, 24948, 6647394, 6647412, 26466, 26484, 6645602, 6645620, 7694178, 7694196, 6513506, 6513524, 1936683106, 1936683124, 6518370, 6518388, 25708, 1651860588, 1752523884, 6579308, 1651729516, 1752392812, 108256604415084, 1885435763, 29811, 6452339, 6845555, 6583411, 7368558]
def fmL : List Int32 := [0, 0, 0, 0, 0, 0, 0, 0, 0, 0, 0, 0, 0, 0, 0, 0, 0, 0, 0, 0, 0, 0, 0, 0, 0, 0, 0, 0, 0, 0, 0, 0, 0, 0, 0, 1, 2, 2, 2, 2, 3, 3, 3, 3, 3, 4, 5, 3, 5, 3, 5, 3, 5, 3, 5, 3, 5, 3, 5, 3, 5, 3, 5, 3, 5, 3, 5, 3, 5, 3, 5, 3, 5, 3, 5, 3, 5, 3, 0, 0, 0, 0, 0, 0, 0, 0, 6, 6, 6, 6, 7]
def cdL : List Int32 := [128, 144, 129, 145, 130, 146, 131, 147, 132, 148, 133, 149, 134, 150, 135, 151, 136, 152, 140, 156, 138, 154, 139, 155, 142, 158, 143, 159, 164, 165, 166, 167, 184, 188, 189, 0, 40, 41, 42, 43, 1536, 1568, 1600, 1632, 1824, 0, 0, 1856, 1, 1857, 2, 1858, 3, 1859, 4, 1860, 5, 1861, 6, 1862, 7, 1863, 8, 1864, 9, 1865, 10, 1866, 11, 1867, 12, 1868, 13, 1869, 14, 1870, 15, 1871, 192, 193, 194, 195, 201, 202, 205, 207, 196, 197, 198, 199, 0]
def nmT : Nat → Int64 := fun j => nmL.getD j 0
def fmT : Nat → Int32 := fun j => fmL.getD j 0
def cdT : Nat → Int32 := fun j => cdL.getD j 0
def wD (h : Nat → Nat) (c : Nat → ClassId) (st : SD) : va_W :=
  [(h 20, .inr (6, [.ref (h 21), .ref (h 22), .ref (h 23), .int (st.1 0), .int (st.1 1), .int (st.1 2), .int (st.1 3), .ref (h 24), .ref (h 25), .ref (h 26), .ref (h 27), .ref (h 28), .int (st.1 4), .int (st.1 5), .int (st.1 6), .int (st.1 7), .int (st.1 8), .int (st.1 9), .int (st.1 10), .int (st.1 11), .int (st.1 12), .int (st.1 13), .int (st.1 14), .int (st.1 15), .int (st.1 16), .int (st.1 17), .int (st.1 18), .int (st.1 19), .int (st.1 20), .int (st.1 21), .int (st.1 22)])),
   (h 21, .inl (c 21, 91, .inr (.inl nmT))), (h 22, .inl (c 22, 91, .inl fmT)), (h 23, .inl (c 23, 91, .inl cdT)), (h 24, .inl (c 24, 40, .inl st.2.1)), (h 25, .inl (c 25, 1024, .inl st.2.2.1)), (h 26, .inl (c 26, 8, .inl st.2.2.2.1)), (h 27, .inl (c 27, 32, .inl st.2.2.2.2.1)), (h 28, .inl (c 28, 32, .inl st.2.2.2.2.2))]
theorem g_gl {r : Int32} (hr : vp_in r 32) (c : ¬ (8 : Int32) ≤ r) : vp_in r 8 := by
  obtain ⟨j, hj, rfl⟩ := vp_in_of hr (by omega)
  exact vp_in_nI (znlt (N := 8) (by omega) c) (by omega)
theorem g_o1 {w r : Int32} (hr : vp_in r 32) (hw : vp_in w 4) (c1 : (8 : Int32) ≤ r) (c2 : ¬ (16 : Int32) ≤ r) : vp_in ((((8 : Int32) * w) + r) - (8 : Int32)) 32 := by
  obtain ⟨i, hi, rfl⟩ := vp_in_of hw (by omega)
  obtain ⟨j, hj, rfl⟩ := vp_in_of hr (by omega)
  have h : ∀ i : Fin 4, ∀ j : Fin 32, (8 : Int32) ≤ nI j → ¬ (16 : Int32) ≤ nI j → ¬ (((((8 : Int32) * nI i) + nI j) - (8 : Int32)) < 0 ∨ 32 ≤ ((((8 : Int32) * nI i) + nI j) - (8 : Int32)).toNatClampNeg) := by decide +kernel
  exact h ⟨i, hi⟩ ⟨j, hj⟩ c1 c2
theorem g_lo {w r : Int32} (hr : vp_in r 32) (hw : vp_in w 4) (c1 : (16 : Int32) ≤ r) (c2 : ¬ (24 : Int32) ≤ r) : vp_in ((((8 : Int32) * w) + r) - (16 : Int32)) 32 := by
  obtain ⟨i, hi, rfl⟩ := vp_in_of hw (by omega)
  obtain ⟨j, hj, rfl⟩ := vp_in_of hr (by omega)
  have h : ∀ i : Fin 4, ∀ j : Fin 32, (16 : Int32) ≤ nI j → ¬ (24 : Int32) ≤ nI j → ¬ (((((8 : Int32) * nI i) + nI j) - (16 : Int32)) < 0 ∨ 32 ≤ ((((8 : Int32) * nI i) + nI j) - (16 : Int32)).toNatClampNeg) := by decide +kernel
  exact h ⟨i, hi⟩ ⟨j, hj⟩ c1 c2
theorem g_o2 {w r : Int32} (hr : vp_in r 32) (hw : vp_in w 4) (c1 : (24 : Int32) ≤ r) : vp_in ((((8 : Int32) * ((w + (1 : Int32)) &&& (3 : Int32))) + r) - (24 : Int32)) 32 := by
  obtain ⟨i, hi, rfl⟩ := vp_in_of hw (by omega)
  obtain ⟨j, hj, rfl⟩ := vp_in_of hr (by omega)
  have h : ∀ i : Fin 4, ∀ j : Fin 32, (24 : Int32) ≤ nI j → ¬ (((((8 : Int32) * ((nI i + (1 : Int32)) &&& (3 : Int32))) + nI j) - (24 : Int32)) < 0 ∨ 32 ≤ ((((8 : Int32) * ((nI i + (1 : Int32)) &&& (3 : Int32))) + nI j) - (24 : Int32)).toNatClampNeg) := by decide +kernel
  exact h ⟨i, hi⟩ ⟨j, hj⟩ c1
/-- the window is one of the four; S and PS are truth values -/
def okV (st : SD) : Prop := vp_in (st.1 6) 4 ∧ zB (st.1 17) ∧ zB (st.1 18)
theorem okV_ite {c : Prop} {d : Decidable c} {a b : SD} (ha : okV a) (hb : okV b) : okV (@ite _ c d a b) := by
  by_cases h : c
  · rw [if_pos h]; exact ha
  · rw [if_neg h]; exact hb
theorem bx_in {x y : Int32} (h : x = y &&& (31 : Int32)) : vp_in x 32 := by rw [h]; exact a31_in y
theorem b3_in (y : Int32) : vp_in (y &&& (3 : Int32)) 4 := pk_andIn _ 2 (by decide) (by decide)
theorem atD_in {st : SD} (h : 0 ≤ (st.1 3).toInt ∧ (st.1 1).toInt ≤ 40) (c : ¬ (st.1 1) ≤ (st.1 3)) : vp_in (st.1 3) 40 := by
  have q := nle_toInt c
  exact vp_in_iff.mpr ⟨h.1, by omega⟩
theorem d_D_in_0 : decode c_D_in 0 = .ok (.lload_n 0, 1) := by decide +kernel
theorem d_D_in_1 : decode c_D_in 1 = .ok (.lload_n 2, 1) := by decide +kernel
theorem d_D_in_2 : decode c_D_in 2 = .ok (.lcmp, 1) := by decide +kernel
theorem d_D_in_3 : decode c_D_in 3 = .ok (.ifCond .lt 14, 3) := by decide +kernel
theorem d_D_in_6 : decode c_D_in 6 = .ok (.lload_n 0, 1) := by decide +kernel
theorem d_D_in_7 : decode c_D_in 7 = .ok (.lload 4, 2) := by decide +kernel
theorem d_D_in_9 : decode c_D_in 9 = .ok (.lcmp, 1) := by decide +kernel
theorem d_D_in_10 : decode c_D_in 10 = .ok (.ifCond .gt 7, 3) := by decide +kernel
theorem d_D_in_13 : decode c_D_in 13 = .ok (.iconst 1, 1) := by decide +kernel
theorem d_D_in_14 : decode c_D_in 14 = .ok (.goto 4, 3) := by decide +kernel
theorem d_D_in_17 : decode c_D_in 17 = .ok (.iconst 0, 1) := by decide +kernel
theorem d_D_in_18 : decode c_D_in 18 = .ok (.ireturn, 1) := by decide +kernel
theorem kd_D_in : (y_D_in).cls = "WindowMachineModel" ∧ (y_D_in).cls ≠ "java/lang/invoke/MethodHandle" ∧ (y_D_in).cls ≠ "java/lang/invoke/VarHandle" ∧ (parseMethodDescriptor (y_D_in).desc).map (fun d => d.parameters.length) = some 3 := by decide +kernel
def m_in (p0 : Int64) (p1 : Int64) (p2 : Int64) : Int32 := (let x_1 := (if (lg_cmp p0 p1) < (0 : Int32) then (0 : Int32) else (if (0 : Int32) < (lg_cmp p0 p2) then (0 : Int32) else (1 : Int32))); x_1)
set_option maxHeartbeats 4000000 in
set_option maxRecDepth 100000 in
theorem mt_D_in (l : Launch) (D : va_G) (sz : Nat) (p0 : Int64) (p1 : Int64) (p2 : Int64) : Met l y_D_in w_D_in ({ frames := 0, cells := 0, slots := 0, locals := 0 }) (va_Pc [.long p0, .long p1, .long p2] (zw_pre D vwCl [] sz ([]) (fun _ => True))) (va_Qi (fun r (_ : Unit) => r = m_in p0 p1 p2) (fun u t => zw_at D vwCl (va_A ([]) sz) ((fun (_ : Unit) => []) u) t) (va_A ([]) sz)) 0 0 (va_A ([]) sz) := by
  refine zm (Qf := fun A => va_Qi (fun r (_ : Unit) => r = m_in p0 p1 p2) (fun u t => zw_at D vwCl A ((fun (_ : Unit) => []) u) t) A) (Zf := fun _ _ => True) (cc := c_D_in) (nL := 6) (ret := (some .boolean)) (by decide) rfl (Nat.le_of_ble_eq_true rfl) ?_
  intro p e s m below meth c9 A H locs ls hx hb hml hown hts hr hlocks hA hK hP hD hS hZ hl
  have hl : lv_has ls 6 [(0, .long p0), (2, .long p1), (4, .long p2)] := hl
  have ht : ∀ w9 ∈ zT, w9.before _ s = true := fun w9 h9 => hts w9 (List.mem_cons_of_mem _ h9)
  refine lv_lload_n hx hb d_D_in_0 rfl (lv_at hl 0 rfl) ?_
  refine lv_lload_n hx hb d_D_in_1 rfl (lv_at hl 1 rfl) ?_
  refine W.lcmp hx hb d_D_in_2 ?_
  refine zcut (X := Int32) (G := fun v9 H locs ls => v9 = (if (lg_cmp p0 p1) < (0 : Int32) then (0 : Int32) else (if (0 : Int32) < (lg_cmp p0 p2) then (0 : Int32) else (1 : Int32))) ∧ va_P D vwCl ([]) H ∧ va_D A ([]) ∧ va_S A s.heap H locs ∧ lv_has ls 6 [(0, .long p0), (2, .long p1), (4, .long p2)]) (fr := fun v9 ls => F0 m 18 ls [.int v9]) (fun J_2 => ?_) (fun v9 H locs ls hG => ?_)
  · refine lv_if_lt (tgt := 17) hx hb d_D_in_3 (by decide) (fun c_3 => ?_) (fun c_3 => ?_)
    · refine lv_iconst (v := (0 : Int32)) hx hb d_D_in_17 (by decide) ?_
      exact J_2 (0 : Int32) _ _ _ ⟨by simp only [if_pos c_3], hP, hD, hS, hl⟩
    refine lv_lload_n hx hb d_D_in_6 rfl (lv_at hl 0 rfl) ?_
    refine lv_lload hx hb d_D_in_7 (lv_at hl 2 rfl) ?_
    refine W.lcmp hx hb d_D_in_9 ?_
    refine lv_if_gt (tgt := 17) hx hb d_D_in_10 (by decide) (fun c_4 => ?_) (fun c_4 => ?_)
    · refine lv_iconst (v := (0 : Int32)) hx hb d_D_in_17 (by decide) ?_
      exact J_2 (0 : Int32) _ _ _ ⟨by simp only [if_neg c_3, if_pos c_4], hP, hD, hS, hl⟩
    refine lv_iconst (v := (1 : Int32)) hx hb d_D_in_13 (by decide) ?_
    refine lv_goto (tgt := 18) hx hb d_D_in_14 (by decide) ?_
    exact J_2 (1 : Int32) _ _ _ ⟨by simp only [if_neg c_3, if_neg c_4], hP, hD, hS, hl⟩
  obtain ⟨x_1, rfl⟩ : ∃ z, z = v9 := ⟨_, rfl⟩
  obtain ⟨ex_1, hP, hD, hS, hl⟩ := hG
  have zbx_1 : zB x_1 := by rw [ex_1]; repeat' first | exact zB0 | exact zB1 | assumption | apply zB_ite
  exact zl_z (u := ()) hx hb hr (zbx_1).n hlocks hS hP hD (by simp only [m_in, ← ex_1]) d_D_in_18
theorem d_D_bit_0 : decode c_D_bit 0 = .ok (.iload_n 0, 1) := by decide +kernel
theorem d_D_bit_1 : decode c_D_bit 1 = .ok (.ifCond .eq 7, 3) := by decide +kernel
theorem d_D_bit_4 : decode c_D_bit 4 = .ok (.iconst 1, 1) := by decide +kernel
theorem d_D_bit_5 : decode c_D_bit 5 = .ok (.goto 4, 3) := by decide +kernel
theorem d_D_bit_8 : decode c_D_bit 8 = .ok (.iconst 0, 1) := by decide +kernel
theorem d_D_bit_9 : decode c_D_bit 9 = .ok (.ireturn, 1) := by decide +kernel
theorem kd_D_bit : (y_D_bit).cls = "WindowMachineModel" ∧ (y_D_bit).cls ≠ "java/lang/invoke/MethodHandle" ∧ (y_D_bit).cls ≠ "java/lang/invoke/VarHandle" ∧ (parseMethodDescriptor (y_D_bit).desc).map (fun d => d.parameters.length) = some 1 := by decide +kernel
def m_bit (p0 : Int32) : Int32 := (let x_1 := (if p0 = (0 : Int32) then (0 : Int32) else (1 : Int32)); x_1)
set_option maxHeartbeats 4000000 in
set_option maxRecDepth 100000 in
theorem mt_D_bit (l : Launch) (D : va_G) (sz : Nat) (p0 : Int32) : Met l y_D_bit w_D_bit ({ frames := 0, cells := 0, slots := 0, locals := 0 }) (va_Pc [.int p0] (zw_pre D vwCl [] sz ([]) (fun _ => True))) (va_Qi (fun r (_ : Unit) => r = m_bit p0) (fun u t => zw_at D vwCl (va_A ([]) sz) ((fun (_ : Unit) => []) u) t) (va_A ([]) sz)) 0 0 (va_A ([]) sz) := by
  refine zm (Qf := fun A => va_Qi (fun r (_ : Unit) => r = m_bit p0) (fun u t => zw_at D vwCl A ((fun (_ : Unit) => []) u) t) A) (Zf := fun _ _ => True) (cc := c_D_bit) (nL := 1) (ret := (some .int)) (by decide) rfl (Nat.le_of_ble_eq_true rfl) ?_
  intro p e s m below meth c9 A H locs ls hx hb hml hown hts hr hlocks hA hK hP hD hS hZ hl
  have hl : lv_has ls 1 [(0, .int p0)] := hl
  have ht : ∀ w9 ∈ zT, w9.before _ s = true := fun w9 h9 => hts w9 (List.mem_cons_of_mem _ h9)
  refine lv_iload_n hx hb d_D_bit_0 rfl (lv_at hl 0 rfl) ?_
  refine zcut (X := Int32) (G := fun v9 H locs ls => v9 = (if p0 = (0 : Int32) then (0 : Int32) else (1 : Int32)) ∧ va_P D vwCl ([]) H ∧ va_D A ([]) ∧ va_S A s.heap H locs ∧ lv_has ls 1 [(0, .int p0)]) (fr := fun v9 ls => F0 m 9 ls [.int v9]) (fun J_2 => ?_) (fun v9 H locs ls hG => ?_)
  · refine lv_if_eq (tgt := 8) hx hb d_D_bit_1 (by decide) (fun c_3 => ?_) (fun c_3 => ?_)
    · refine lv_iconst (v := (0 : Int32)) hx hb d_D_bit_8 (by decide) ?_
      exact J_2 (0 : Int32) _ _ _ ⟨by simp only [if_pos c_3], hP, hD, hS, hl⟩
    refine lv_iconst (v := (1 : Int32)) hx hb d_D_bit_4 (by decide) ?_
    refine lv_goto (tgt := 9) hx hb d_D_bit_5 (by decide) ?_
    exact J_2 (1 : Int32) _ _ _ ⟨by simp only [if_neg c_3], hP, hD, hS, hl⟩
  obtain ⟨x_1, rfl⟩ : ∃ z, z = v9 := ⟨_, rfl⟩
  obtain ⟨ex_1, hP, hD, hS, hl⟩ := hG
  have zbx_1 : zB x_1 := by rw [ex_1]; repeat' first | exact zB0 | exact zB1 | assumption | apply zB_ite
  exact zl_i (u := ()) hx hb hr hlocks hS hP hD (by simp only [m_bit, ← ex_1]) d_D_bit_9
theorem d_D_bare_0 : decode c_D_bare 0 = .ok (.iload_n 0, 1) := by decide +kernel
theorem d_D_bare_1 : decode c_D_bare 1 = .ok (.i2l, 1) := by decide +kernel
theorem d_D_bare_2 : decode c_D_bare 2 = .ok (.ldc2_w 315, 3) := by decide +kernel
theorem d_D_bare_5 : decode c_D_bare 5 = .ok (.land, 1) := by decide +kernel
theorem d_D_bare_6 : decode c_D_bare 6 = .ok (.lreturn, 1) := by decide +kernel
theorem kd_D_bare : (y_D_bare).cls = "WindowMachineModel" ∧ (y_D_bare).cls ≠ "java/lang/invoke/MethodHandle" ∧ (y_D_bare).cls ≠ "java/lang/invoke/VarHandle" ∧ (parseMethodDescriptor (y_D_bare).desc).map (fun d => d.parameters.length) = some 1 := by decide +kernel
def m_bare (p0 : Int32) : Int64 := p0.toInt64 &&& (4294967295 : Int64)
set_option maxHeartbeats 4000000 in
set_option maxRecDepth 100000 in
theorem mt_D_bare (l : Launch) (D : va_G) (sz : Nat) (p0 : Int32) : Met l y_D_bare w_D_bare ({ frames := 0, cells := 0, slots := 0, locals := 0 }) (va_Pc [.int p0] (zw_pre D vwCl [] sz ([]) (fun _ => True))) (va_Ql (fun r (_ : Unit) => r = m_bare p0) (fun u t => zw_at D vwCl (va_A ([]) sz) ((fun (_ : Unit) => []) u) t) (va_A ([]) sz)) 0 0 (va_A ([]) sz) := by
  refine zm (Qf := fun A => va_Ql (fun r (_ : Unit) => r = m_bare p0) (fun u t => zw_at D vwCl A ((fun (_ : Unit) => []) u) t) A) (Zf := fun _ _ => True) (cc := c_D_bare) (nL := 1) (ret := (some .long)) (by decide) rfl (Nat.le_of_ble_eq_true rfl) ?_
  intro p e s m below meth c9 A H locs ls hx hb hml hown hts hr hlocks hA hK hP hD hS hZ hl
  have hl : lv_has ls 1 [(0, .int p0)] := hl
  have ht : ∀ w9 ∈ zT, w9.before _ s = true := fun w9 h9 => hts w9 (List.mem_cons_of_mem _ h9)
  refine lv_iload_n hx hb d_D_bare_0 rfl (lv_at hl 0 rfl) ?_
  refine lv_i2l (v := p0.toInt64) hx hb d_D_bare_1 rfl ?_
  refine lv_ldc2 (v := (4294967295 : Int64)) hx hb hown (ht _ zw_1038) d_D_bare_2 ?_
  refine lv_land hx hb d_D_bare_5 ?_
  exact zl_l (u := ()) hx hb hr hlocks hS hP hD (by simp only [m_bare]) d_D_bare_6
theorem d_D_isWord_0 : decode c_D_isWord 0 = .ok (.iload_n 0, 1) := by decide +kernel
theorem d_D_isWord_1 : decode c_D_isWord 1 = .ok (.i2l, 1) := by decide +kernel
theorem d_D_isWord_2 : decode c_D_isWord 2 = .ok (.lconst 0, 1) := by decide +kernel
theorem d_D_isWord_3 : decode c_D_isWord 3 = .ok (.ldc2_w 280, 3) := by decide +kernel
theorem d_D_isWord_6 : decode c_D_isWord 6 = .ok (.invokestatic 282, 3) := by decide +kernel
theorem d_D_isWord_9 : decode c_D_isWord 9 = .ok (.ifCond .eq 13, 3) := by decide +kernel
theorem d_D_isWord_12 : decode c_D_isWord 12 = .ok (.iload_n 0, 1) := by decide +kernel
theorem d_D_isWord_13 : decode c_D_isWord 13 = .ok (.iconst 3, 1) := by decide +kernel
theorem d_D_isWord_14 : decode c_D_isWord 14 = .ok (.iand, 1) := by decide +kernel
theorem d_D_isWord_15 : decode c_D_isWord 15 = .ok (.ifCond .ne 7, 3) := by decide +kernel
theorem d_D_isWord_18 : decode c_D_isWord 18 = .ok (.iconst 1, 1) := by decide +kernel
theorem d_D_isWord_19 : decode c_D_isWord 19 = .ok (.goto 4, 3) := by decide +kernel
theorem d_D_isWord_22 : decode c_D_isWord 22 = .ok (.iconst 0, 1) := by decide +kernel
theorem d_D_isWord_23 : decode c_D_isWord 23 = .ok (.ireturn, 1) := by decide +kernel
theorem kd_D_isWord : (y_D_isWord).cls = "WindowMachineModel" ∧ (y_D_isWord).cls ≠ "java/lang/invoke/MethodHandle" ∧ (y_D_isWord).cls ≠ "java/lang/invoke/VarHandle" ∧ (parseMethodDescriptor (y_D_isWord).desc).map (fun d => d.parameters.length) = some 1 := by decide +kernel
def m_isWord (p0 : Int32) : Int32 := (let r_1 := m_in p0.toInt64 (0 : Int64) (1020 : Int64); (let x_2 := (if r_1 = (0 : Int32) then (0 : Int32) else (if (p0 &&& (3 : Int32)) = (0 : Int32) then (1 : Int32) else (0 : Int32))); x_2))
set_option maxHeartbeats 4000000 in
set_option maxRecDepth 100000 in
theorem mt_D_isWord (l : Launch) (D : va_G) (sz : Nat) (p0 : Int32) : Met l y_D_isWord w_D_isWord ({ frames := 1, cells := 0, slots := 0, locals := 25 }) (va_Pc [.int p0] (zw_pre D vwCl [] sz ([]) (fun _ => True))) (va_Qi (fun r (_ : Unit) => r = m_isWord p0) (fun u t => zw_at D vwCl (va_A ([]) sz) ((fun (_ : Unit) => []) u) t) (va_A ([]) sz)) 0 0 (va_A ([]) sz) := by
  refine zm (Qf := fun A => va_Qi (fun r (_ : Unit) => r = m_isWord p0) (fun u t => zw_at D vwCl A ((fun (_ : Unit) => []) u) t) A) (Zf := fun _ _ => True) (cc := c_D_isWord) (nL := 1) (ret := (some .boolean)) (by decide) rfl (Nat.le_of_ble_eq_true rfl) ?_
  intro p e s m below meth c9 A H locs ls hx hb hml hown hts hr hlocks hA hK hP hD hS hZ hl
  have hl : lv_has ls 1 [(0, .int p0)] := hl
  have ht : ∀ w9 ∈ zT, w9.before _ s = true := fun w9 h9 => hts w9 (List.mem_cons_of_mem _ h9)
  refine lv_iload_n hx hb d_D_isWord_0 rfl (lv_at hl 0 rfl) ?_
  refine lv_i2l (v := p0.toInt64) hx hb d_D_isWord_1 rfl ?_
  refine lv_lconst (v := (0 : Int64)) hx hb d_D_isWord_2 (by decide) ?_
  refine lv_ldc2 (v := (1020 : Int64)) hx hb hown (ht _ zw_960) d_D_isWord_3 ?_
  refine zc_i (w2 := fun _ => []) (va_runS (As := [.long p0.toInt64, .long (0 : Int64), .long (1020 : Int64)]) (rest := []) ⟨hx, hb, hml, hown, ht⟩ (mt_D_in l D H.size p0.toInt64 (0 : Int64) (1020 : Int64)) (cwS 3 ht (zgS zw_961 zw_962 zw_7 zw_963) rfl rfl rfl kd_D_in ⟨Nat.le_of_ble_eq_true rfl, Nat.le_of_ble_eq_true rfl⟩) ⟨zw_blind zw_tt, zw_go (hP.sub (ws' := []) [] rfl) (hD.sub (ws' := []) [] (by decide) rfl) (hK.sub (tys' := []) [] rfl) (fun _ _ _ => trivial)⟩ rfl rfl hl.1 rfl (lv_room (Nat.le_of_ble_eq_true rfl)) d_D_isWord_6 ⟨Nat.le_of_ble_eq_true rfl, Nat.le_of_ble_eq_true rfl⟩) hP hD hS hA [] [] [] rfl rfl (by decide) (by decide) (by decide) (fun _ => rfl) (fun r_1 _ H locs hw hP hD hS => ?_)
  have er_1 := hw
  refine zcut (X := Int32) (G := fun v9 H locs ls => v9 = (if r_1 = (0 : Int32) then (0 : Int32) else (if (p0 &&& (3 : Int32)) = (0 : Int32) then (1 : Int32) else (0 : Int32))) ∧ va_P D vwCl ([]) H ∧ va_D A ([]) ∧ va_S A s.heap H locs ∧ lv_has ls 1 [(0, .int p0)]) (fr := fun v9 ls => F0 m 23 ls [.int v9]) (fun J_3 => ?_) (fun v9 H locs ls hG => ?_)
  · refine lv_if_eq (tgt := 22) hx hb d_D_isWord_9 (by decide) (fun c_4 => ?_) (fun c_4 => ?_)
    · refine lv_iconst (v := (0 : Int32)) hx hb d_D_isWord_22 (by decide) ?_
      exact J_3 (0 : Int32) _ _ _ ⟨by simp only [if_pos c_4], hP, hD, hS, hl⟩
    refine lv_iload_n hx hb d_D_isWord_12 rfl (lv_at hl 0 rfl) ?_
    refine lv_iconst (v := (3 : Int32)) hx hb d_D_isWord_13 (by decide) ?_
    refine lv_iand hx hb d_D_isWord_14 ?_
    refine lv_if_ne (tgt := 22) hx hb d_D_isWord_15 (by decide) (fun c_5 => ?_) (fun c_5 => ?_)
    · refine lv_iconst (v := (0 : Int32)) hx hb d_D_isWord_22 (by decide) ?_
      exact J_3 (0 : Int32) _ _ _ ⟨by simp only [if_neg c_4, if_neg c_5], hP, hD, hS, hl⟩
    refine lv_iconst (v := (1 : Int32)) hx hb d_D_isWord_18 (by decide) ?_
    refine lv_goto (tgt := 23) hx hb d_D_isWord_19 (by decide) ?_
    exact J_3 (1 : Int32) _ _ _ ⟨by simp only [if_neg c_4, if_pos c_5], hP, hD, hS, hl⟩
  obtain ⟨x_2, rfl⟩ : ∃ z, z = v9 := ⟨_, rfl⟩
  obtain ⟨ex_2, hP, hD, hS, hl⟩ := hG
  have zbx_2 : zB x_2 := by rw [ex_2]; repeat' first | exact zB0 | exact zB1 | assumption | apply zB_ite
  exact zl_z (u := ()) hx hb hr (zbx_2).n hlocks hS hP hD (by simp only [m_isWord, ← er_1, ← ex_2]) d_D_isWord_23
theorem d_D_thrown_0 : decode c_D_thrown 0 = .ok (.aload_n 0, 1) := by decide +kernel
theorem d_D_thrown_1 : decode c_D_thrown 1 = .ok (.getfield 228, 3) := by decide +kernel
theorem d_D_thrown_4 : decode c_D_thrown 4 = .ok (.ireturn, 1) := by decide +kernel
theorem kd_D_thrown : (y_D_thrown).cls = "WindowMachineModel" ∧ (y_D_thrown).cls ≠ "java/lang/invoke/MethodHandle" ∧ (y_D_thrown).cls ≠ "java/lang/invoke/VarHandle" ∧ (parseMethodDescriptor (y_D_thrown).desc).map (fun d => d.parameters.length) = some 0 := by decide +kernel
def m_thrown (st : SD) : Int32 := st.1 0
set_option maxHeartbeats 4000000 in
set_option maxRecDepth 100000 in
theorem mt_D_thrown (l : Launch) (D : va_G) (h : Nat → Nat) (c : Nat → ClassId) (sz : Nat) (st : SD) : Met l y_D_thrown w_D_thrown ({ frames := 0, cells := 0, slots := 0, locals := 0 }) (va_Pc [.ref (h 20)] (zw_pre D vwCl [(c 21, .long), (c 22, .int), (c 23, .int), (c 24, .int), (c 25, .int), (c 26, .int), (c 27, .int), (c 28, .int)] sz (wD h c st) (fun _ => True))) (va_Qi (fun r (_ : Unit) => r = m_thrown st) (fun u t => zw_at D vwCl (va_A (wD h c st) sz) ((fun (_ : Unit) => wD h c st) u) t) (va_A (wD h c st) sz)) 0 0 (va_A (wD h c st) sz) := by
  refine zm (Qf := fun A => va_Qi (fun r (_ : Unit) => r = m_thrown st) (fun u t => zw_at D vwCl A ((fun (_ : Unit) => wD h c st) u) t) A) (Zf := fun _ _ => True) (cc := c_D_thrown) (nL := 1) (ret := (some .int)) (by decide) rfl (Nat.le_of_ble_eq_true rfl) ?_
  intro p e s m below meth c9 A H locs ls hx hb hml hown hts hr hlocks hA hK hP hD hS hZ hl
  have hl : lv_has ls 1 [(0, .ref (h 20))] := hl
  have ht : ∀ w9 ∈ zT, w9.before _ s = true := fun w9 h9 => hts w9 (List.mem_cons_of_mem _ h9)
  refine lv_aload_n hx hb d_D_thrown_0 rfl (lv_at hl 0 rfl) ?_
  refine va_get (D := D) (ci := 6) (v := .int (st.1 0)) (C := "WindowMachineModel") (T := T_D) (N := 31) hx hb ht zi_D hown hK hP 0 rfl rfl 3 (by decide) (ht _ zw_857) (fun _ h9 => h9) rfl d_D_thrown_1 ?_
  exact zl_i (u := ()) hx hb hr hlocks hS hP hD (by simp only [m_thrown]) d_D_thrown_4
theorem d_D_place_0 : decode c_D_place 0 = .ok (.aload_n 0, 1) := by decide +kernel
theorem d_D_place_1 : decode c_D_place 1 = .ok (.iconst 0, 1) := by decide +kernel
theorem d_D_place_2 : decode c_D_place 2 = .ok (.putfield 228, 3) := by decide +kernel
theorem d_D_place_5 : decode c_D_place 5 = .ok (.aload_n 0, 1) := by decide +kernel
theorem d_D_place_6 : decode c_D_place 6 = .ok (.getfield 202, 3) := by decide +kernel
theorem d_D_place_9 : decode c_D_place 9 = .ok (.ireturn, 1) := by decide +kernel
theorem kd_D_place : (y_D_place).cls = "WindowMachineModel" ∧ (y_D_place).cls ≠ "java/lang/invoke/MethodHandle" ∧ (y_D_place).cls ≠ "java/lang/invoke/VarHandle" ∧ (parseMethodDescriptor (y_D_place).desc).map (fun d => d.parameters.length) = some 0 := by decide +kernel
def m_place (st : SD) : Int32 × SD := (st.1 2, (upd st.1 0 (0 : Int32), st.2.1, st.2.2.1, st.2.2.2.1, st.2.2.2.2.1, st.2.2.2.2.2))
set_option maxHeartbeats 4000000 in
set_option maxRecDepth 100000 in
theorem mt_D_place (l : Launch) (D : va_G) (h : Nat → Nat) (c : Nat → ClassId) (sz : Nat) (st : SD) : Met l y_D_place w_D_place ({ frames := 0, cells := 0, slots := 0, locals := 0 }) (va_Pc [.ref (h 20)] (zw_pre D vwCl [(c 21, .long), (c 22, .int), (c 23, .int), (c 24, .int), (c 25, .int), (c 26, .int), (c 27, .int), (c 28, .int)] sz (wD h c st) (fun _ => True))) (va_Qi (fun r (u : SD) => r = (m_place st).1 ∧ u = (m_place st).2) (fun u t => zw_at D vwCl (va_A (wD h c st) sz) ((fun (u : SD) => wD h c u) u) t) (va_A (wD h c st) sz)) 0 0 (va_A (wD h c st) sz) := by
  refine zm (Qf := fun A => va_Qi (fun r (u : SD) => r = (m_place st).1 ∧ u = (m_place st).2) (fun u t => zw_at D vwCl A ((fun (u : SD) => wD h c u) u) t) A) (Zf := fun _ _ => True) (cc := c_D_place) (nL := 1) (ret := (some .int)) (by decide) rfl (Nat.le_of_ble_eq_true rfl) ?_
  intro p e s m below meth c9 A H locs ls hx hb hml hown hts hr hlocks hA hK hP hD hS hZ hl
  have hl : lv_has ls 1 [(0, .ref (h 20))] := hl
  have ht : ∀ w9 ∈ zT, w9.before _ s = true := fun w9 h9 => hts w9 (List.mem_cons_of_mem _ h9)
  refine lv_aload_n hx hb d_D_place_0 rfl (lv_at hl 0 rfl) ?_
  refine lv_iconst (v := (0 : Int32)) hx hb d_D_place_1 (by decide) ?_
  refine va_put (D := D) (ci := 6) (v := .int (0 : Int32)) (ty := .int) (C := "WindowMachineModel") (T := T_D) (N := 31) hx hb ht zi_D ty_D tyok_D nm_D hown hK hP hD hS 0 rfl rfl 3 (by decide) (ht _ zw_857) (fun _ h9 => h9) rfl (by decide +kernel) rfl rfl (Nat.le_of_ble_eq_true rfl) d_D_place_2 (fun H locs hP hD hS => ?_)
  have hP : va_P D vwCl (wD h c (upd st.1 0 (0 : Int32), st.2.1, st.2.2.1, st.2.2.2.1, st.2.2.2.2.1, st.2.2.2.2.2)) H := hP
  have hD : va_D A (wD h c (upd st.1 0 (0 : Int32), st.2.1, st.2.2.1, st.2.2.2.1, st.2.2.2.2.1, st.2.2.2.2.2)) := hD
  refine lv_aload_n hx hb d_D_place_5 rfl (lv_at hl 0 rfl) ?_
  refine va_get (D := D) (ci := 6) (v := .int (st.1 2)) (C := "WindowMachineModel") (T := T_D) (N := 31) hx hb ht zi_D hown hK hP 0 rfl rfl 5 (by decide) (ht _ zw_859) (fun _ h9 => h9) rfl d_D_place_6 ?_
  exact zl_i (u := (upd st.1 0 (0 : Int32), st.2.1, st.2.2.1, st.2.2.2.1, st.2.2.2.2.1, st.2.2.2.2.2)) hx hb hr hlocks hS hP hD (⟨by simp only [m_place], by simp only [m_place]⟩) d_D_place_9
