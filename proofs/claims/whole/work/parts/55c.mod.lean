theorem d_D_letters_0 : decode c_D_letters 0 = .ok (.aload_n 0, 1) := by decide +kernel
theorem d_D_letters_1 : decode c_D_letters 1 = .ok (.iconst 0, 1) := by decide +kernel
theorem d_D_letters_2 : decode c_D_letters 2 = .ok (.putfield 228, 3) := by decide +kernel
theorem d_D_letters_5 : decode c_D_letters 5 = .ok (.iconst 0, 1) := by decide +kernel
theorem d_D_letters_6 : decode c_D_letters 6 = .ok (.istore_n 3, 1) := by decide +kernel
theorem d_D_letters_7 : decode c_D_letters 7 = .ok (.iconst 0, 1) := by decide +kernel
theorem d_D_letters_8 : decode c_D_letters 8 = .ok (.istore 4, 2) := by decide +kernel
theorem d_D_letters_10 : decode c_D_letters 10 = .ok (.iload 4, 2) := by decide +kernel
theorem d_D_letters_12 : decode c_D_letters 12 = .ok (.bipush 8, 2) := by decide +kernel
theorem d_D_letters_14 : decode c_D_letters 14 = .ok (.if_icmp .ge 72, 3) := by decide +kernel
theorem d_D_letters_17 : decode c_D_letters 17 = .ok (.iload_n 3, 1) := by decide +kernel
theorem d_D_letters_18 : decode c_D_letters 18 = .ok (.iload 4, 2) := by decide +kernel
theorem d_D_letters_20 : decode c_D_letters 20 = .ok (.if_icmp .ne 66, 3) := by decide +kernel
theorem d_D_letters_23 : decode c_D_letters 23 = .ok (.lload_n 1, 1) := by decide +kernel
theorem d_D_letters_24 : decode c_D_letters 24 = .ok (.bipush 8, 2) := by decide +kernel
theorem d_D_letters_26 : decode c_D_letters 26 = .ok (.iload 4, 2) := by decide +kernel
theorem d_D_letters_28 : decode c_D_letters 28 = .ok (.imul, 1) := by decide +kernel
theorem d_D_letters_29 : decode c_D_letters 29 = .ok (.lushr, 1) := by decide +kernel
theorem d_D_letters_30 : decode c_D_letters 30 = .ok (.ldc2_w 404, 3) := by decide +kernel
theorem d_D_letters_33 : decode c_D_letters 33 = .ok (.land, 1) := by decide +kernel
theorem d_D_letters_34 : decode c_D_letters 34 = .ok (.l2i, 1) := by decide +kernel
theorem d_D_letters_35 : decode c_D_letters 35 = .ok (.istore 5, 2) := by decide +kernel
theorem d_D_letters_37 : decode c_D_letters 37 = .ok (.aload_n 0, 1) := by decide +kernel
theorem d_D_letters_38 : decode c_D_letters 38 = .ok (.iload 5, 2) := by decide +kernel
theorem d_D_letters_40 : decode c_D_letters 40 = .ok (.ifCond .eq 22, 3) := by decide +kernel
theorem d_D_letters_43 : decode c_D_letters 43 = .ok (.iload 5, 2) := by decide +kernel
theorem d_D_letters_45 : decode c_D_letters 45 = .ok (.i2l, 1) := by decide +kernel
theorem d_D_letters_46 : decode c_D_letters 46 = .ok (.ldc2_w 406, 3) := by decide +kernel
theorem d_D_letters_49 : decode c_D_letters 49 = .ok (.ldc2_w 408, 3) := by decide +kernel
theorem d_D_letters_52 : decode c_D_letters 52 = .ok (.invokestatic 282, 3) := by decide +kernel
theorem d_D_letters_55 : decode c_D_letters 55 = .ok (.ifCond .ne 7, 3) := by decide +kernel
theorem d_D_letters_58 : decode c_D_letters 58 = .ok (.iconst 1, 1) := by decide +kernel
theorem d_D_letters_59 : decode c_D_letters 59 = .ok (.goto 4, 3) := by decide +kernel
theorem d_D_letters_62 : decode c_D_letters 62 = .ok (.iconst 0, 1) := by decide +kernel
theorem d_D_letters_63 : decode c_D_letters 63 = .ok (.iconst 1, 1) := by decide +kernel
theorem d_D_letters_64 : decode c_D_letters 64 = .ok (.invokevirtual 290, 3) := by decide +kernel
theorem d_D_letters_67 : decode c_D_letters 67 = .ok (.ifCond .eq 5, 3) := by decide +kernel
theorem d_D_letters_70 : decode c_D_letters 70 = .ok (.iconst 0, 1) := by decide +kernel
theorem d_D_letters_71 : decode c_D_letters 71 = .ok (.ireturn, 1) := by decide +kernel
theorem d_D_letters_72 : decode c_D_letters 72 = .ok (.iload 5, 2) := by decide +kernel
theorem d_D_letters_74 : decode c_D_letters 74 = .ok (.ifCond .eq 6, 3) := by decide +kernel
theorem d_D_letters_77 : decode c_D_letters 77 = .ok (.iinc 3 1, 3) := by decide +kernel
theorem d_D_letters_80 : decode c_D_letters 80 = .ok (.iinc 4 1, 3) := by decide +kernel
theorem d_D_letters_83 : decode c_D_letters 83 = .ok (.goto (-73), 3) := by decide +kernel
theorem d_D_letters_86 : decode c_D_letters 86 = .ok (.aload_n 0, 1) := by decide +kernel
theorem d_D_letters_87 : decode c_D_letters 87 = .ok (.iload_n 3, 1) := by decide +kernel
theorem d_D_letters_88 : decode c_D_letters 88 = .ok (.ifCond .ne 7, 3) := by decide +kernel
theorem d_D_letters_91 : decode c_D_letters 91 = .ok (.iconst 1, 1) := by decide +kernel
theorem d_D_letters_92 : decode c_D_letters 92 = .ok (.goto 4, 3) := by decide +kernel
theorem d_D_letters_95 : decode c_D_letters 95 = .ok (.iconst 0, 1) := by decide +kernel
theorem d_D_letters_96 : decode c_D_letters 96 = .ok (.iconst 1, 1) := by decide +kernel
theorem d_D_letters_97 : decode c_D_letters 97 = .ok (.invokevirtual 290, 3) := by decide +kernel
theorem d_D_letters_100 : decode c_D_letters 100 = .ok (.ifCond .ne 27, 3) := by decide +kernel
theorem d_D_letters_103 : decode c_D_letters 103 = .ok (.aload_n 0, 1) := by decide +kernel
theorem d_D_letters_104 : decode c_D_letters 104 = .ok (.aload_n 0, 1) := by decide +kernel
theorem d_D_letters_105 : decode c_D_letters 105 = .ok (.getfield 410, 3) := by decide +kernel
theorem d_D_letters_108 : decode c_D_letters 108 = .ok (.iload_n 3, 1) := by decide +kernel
theorem d_D_letters_109 : decode c_D_letters 109 = .ok (.iadd, 1) := by decide +kernel
theorem d_D_letters_110 : decode c_D_letters 110 = .ok (.bipush 40, 2) := by decide +kernel
theorem d_D_letters_112 : decode c_D_letters 112 = .ok (.if_icmp .le 7, 3) := by decide +kernel
theorem d_D_letters_115 : decode c_D_letters 115 = .ok (.iconst 1, 1) := by decide +kernel
theorem d_D_letters_116 : decode c_D_letters 116 = .ok (.goto 4, 3) := by decide +kernel
theorem d_D_letters_119 : decode c_D_letters 119 = .ok (.iconst 0, 1) := by decide +kernel
theorem d_D_letters_120 : decode c_D_letters 120 = .ok (.iconst 2, 1) := by decide +kernel
theorem d_D_letters_121 : decode c_D_letters 121 = .ok (.invokevirtual 290, 3) := by decide +kernel
theorem d_D_letters_124 : decode c_D_letters 124 = .ok (.ifCond .eq 5, 3) := by decide +kernel
theorem d_D_letters_127 : decode c_D_letters 127 = .ok (.iconst 0, 1) := by decide +kernel
theorem d_D_letters_128 : decode c_D_letters 128 = .ok (.ireturn, 1) := by decide +kernel
theorem d_D_letters_129 : decode c_D_letters 129 = .ok (.iconst 0, 1) := by decide +kernel
theorem d_D_letters_130 : decode c_D_letters 130 = .ok (.istore 4, 2) := by decide +kernel
theorem d_D_letters_132 : decode c_D_letters 132 = .ok (.iload 4, 2) := by decide +kernel
theorem d_D_letters_134 : decode c_D_letters 134 = .ok (.iload_n 3, 1) := by decide +kernel
theorem d_D_letters_135 : decode c_D_letters 135 = .ok (.if_icmp .ge 33, 3) := by decide +kernel
theorem d_D_letters_138 : decode c_D_letters 138 = .ok (.aload_n 0, 1) := by decide +kernel
theorem d_D_letters_139 : decode c_D_letters 139 = .ok (.getfield 206, 3) := by decide +kernel
theorem d_D_letters_142 : decode c_D_letters 142 = .ok (.aload_n 0, 1) := by decide +kernel
theorem d_D_letters_143 : decode c_D_letters 143 = .ok (.getfield 410, 3) := by decide +kernel
theorem d_D_letters_146 : decode c_D_letters 146 = .ok (.iload 4, 2) := by decide +kernel
theorem d_D_letters_148 : decode c_D_letters 148 = .ok (.iadd, 1) := by decide +kernel
theorem d_D_letters_149 : decode c_D_letters 149 = .ok (.lload_n 1, 1) := by decide +kernel
theorem d_D_letters_150 : decode c_D_letters 150 = .ok (.bipush 8, 2) := by decide +kernel
theorem d_D_letters_152 : decode c_D_letters 152 = .ok (.iload 4, 2) := by decide +kernel
theorem d_D_letters_154 : decode c_D_letters 154 = .ok (.imul, 1) := by decide +kernel
theorem d_D_letters_155 : decode c_D_letters 155 = .ok (.lushr, 1) := by decide +kernel
theorem d_D_letters_156 : decode c_D_letters 156 = .ok (.ldc2_w 404, 3) := by decide +kernel
theorem d_D_letters_159 : decode c_D_letters 159 = .ok (.land, 1) := by decide +kernel
theorem d_D_letters_160 : decode c_D_letters 160 = .ok (.l2i, 1) := by decide +kernel
theorem d_D_letters_161 : decode c_D_letters 161 = .ok (.iastore, 1) := by decide +kernel
theorem d_D_letters_162 : decode c_D_letters 162 = .ok (.iinc 4 1, 3) := by decide +kernel
theorem d_D_letters_165 : decode c_D_letters 165 = .ok (.goto (-33), 3) := by decide +kernel
theorem d_D_letters_168 : decode c_D_letters 168 = .ok (.aload_n 0, 1) := by decide +kernel
theorem d_D_letters_169 : decode c_D_letters 169 = .ok (.dup, 1) := by decide +kernel
theorem d_D_letters_170 : decode c_D_letters 170 = .ok (.getfield 410, 3) := by decide +kernel
theorem d_D_letters_173 : decode c_D_letters 173 = .ok (.iload_n 3, 1) := by decide +kernel
theorem d_D_letters_174 : decode c_D_letters 174 = .ok (.iadd, 1) := by decide +kernel
theorem d_D_letters_175 : decode c_D_letters 175 = .ok (.putfield 410, 3) := by decide +kernel
theorem d_D_letters_178 : decode c_D_letters 178 = .ok (.aload_n 0, 1) := by decide +kernel
theorem d_D_letters_179 : decode c_D_letters 179 = .ok (.getfield 410, 3) := by decide +kernel
theorem d_D_letters_182 : decode c_D_letters 182 = .ok (.ireturn, 1) := by decide +kernel
theorem kd_D_letters : (y_D_letters).cls = "WindowMachineModel" ∧ (y_D_letters).cls ≠ "java/lang/invoke/MethodHandle" ∧ (y_D_letters).cls ≠ "java/lang/invoke/VarHandle" ∧ (parseMethodDescriptor (y_D_letters).desc).map (fun d => d.parameters.length) = some 1 := by decide +kernel
def fl_D_letters_132 (st : SD) (p0 : Int64) : Nat → Nat → Nat → SD → Int32 × SD
  | 0, _, _, u_33 => (0, u_33)
  | n9 + 1, i_31, i_32, u_33 => (if (nI i_31) ≤ (nI i_32) then ((u_33.1 1) + (nI i_31), (upd u_33.1 1 ((u_33.1 1) + (nI i_31)), u_33.2.1, u_33.2.2.1, u_33.2.2.2.1, u_33.2.2.2.2.1, u_33.2.2.2.2.2)) else fl_D_letters_132 st p0 n9 i_31 (i_32 + 1) (u_33.1, upd u_33.2.1 ((u_33.1 1) + (nI i_32)).toNatClampNeg (((zlushr p0 ((8 : Int32) * (nI i_32))) &&& (255 : Int64)).toInt32), u_33.2.2.1, u_33.2.2.2.1, u_33.2.2.2.2.1, u_33.2.2.2.2.2))
def fg_D_letters_86 (st : SD) (p0 : Int64) : Nat → SD → Int32 × SD := fun i_1 u_2 => (let x_21 := (if (nI i_1) = (0 : Int32) then (1 : Int32) else (0 : Int32)); (let r_24 := (m_fails u_2 x_21 (1 : Int32)).1; (let u_24 := (m_fails u_2 x_21 (1 : Int32)).2; (if r_24 = (0 : Int32) then (let x_26 := (if ((u_24.1 1) + (nI i_1)) ≤ (40 : Int32) then (0 : Int32) else (1 : Int32)); (let r_29 := (m_fails u_24 x_26 (2 : Int32)).1; (let u_29 := (m_fails u_24 x_26 (2 : Int32)).2; (if r_29 = (0 : Int32) then fl_D_letters_132 st p0 10 i_1 0 u_29 else ((0 : Int32), u_29))))) else ((0 : Int32), u_24)))))
def fl_D_letters_10 (st : SD) (p0 : Int64) : Nat → Nat → Nat → SD → Int32 × SD
  | 0, _, _, u_6 => (0, u_6)
  | n9 + 1, i_4, i_5, u_6 => (if (8 : Int32) ≤ (nI i_5) then fg_D_letters_86 st p0 i_4 u_6 else (if (nI i_4) = (nI i_5) then (let x_10 := ((zlushr p0 ((8 : Int32) * (nI i_5))) &&& (255 : Int64)).toInt32; (let x_11 := (if x_10 = (0 : Int32) then (0 : Int32) else (if (m_in x_10.toInt64 (32 : Int64) (126 : Int64)) = (0 : Int32) then (1 : Int32) else (0 : Int32))); (let r_16 := (m_fails u_6 x_11 (1 : Int32)).1; (let u_16 := (m_fails u_6 x_11 (1 : Int32)).2; (if r_16 = (0 : Int32) then (if x_10 = (0 : Int32) then fl_D_letters_10 st p0 n9 i_4 (i_5 + 1) u_16 else fl_D_letters_10 st p0 n9 (i_4 + 1) (i_5 + 1) u_16) else ((0 : Int32), u_16)))))) else fg_D_letters_86 st p0 i_4 u_6))
def m_letters (st : SD) (p0 : Int64) : Int32 × SD := fl_D_letters_10 st p0 10 0 0 (upd st.1 0 (0 : Int32), st.2.1, st.2.2.1, st.2.2.2.1, st.2.2.2.2.1, st.2.2.2.2.2)
set_option maxHeartbeats 4000000 in
set_option maxRecDepth 100000 in
theorem mt_D_letters (l : Launch) (D : va_G) (h : Nat → Nat) (c : Nat → ClassId) (sz : Nat) (st : SD) (p0 : Int64) (hL : 0 ≤ (st.1 1).toInt ∧ (st.1 1).toInt ≤ 40) : Met l y_D_letters w_D_letters ({ frames := 1, cells := 0, slots := 0, locals := 25 }) (va_Pc [.ref (h 20), .long p0] (zw_pre D vwCl [(c 21, .long), (c 22, .int), (c 23, .int), (c 24, .int), (c 25, .int), (c 26, .int), (c 27, .int), (c 28, .int)] sz (wD h c st) (fun _ => True))) (va_Qi (fun r (u : SD) => r = (m_letters st p0).1 ∧ u = (m_letters st p0).2) (fun u t => zw_at D vwCl (va_A (wD h c st) sz) ((fun (u : SD) => wD h c u) u) t) (va_A (wD h c st) sz)) 0 0 (va_A (wD h c st) sz) := by
  refine zm (Qf := fun A => va_Qi (fun r (u : SD) => r = (m_letters st p0).1 ∧ u = (m_letters st p0).2) (fun u t => zw_at D vwCl A ((fun (u : SD) => wD h c u) u) t) A) (Zf := fun _ _ => True) (cc := c_D_letters) (nL := 6) (ret := (some .int)) (by decide) rfl (Nat.le_of_ble_eq_true rfl) ?_
  intro p e s m below meth c9 A H locs ls hx hb hml hown hts hr hlocks hA hK hP hD hS hZ hl
  have hl : lv_has ls 6 [(0, .ref (h 20)), (1, .long p0)] := hl
  have ht : ∀ w9 ∈ zT, w9.before _ s = true := fun w9 h9 => hts w9 (List.mem_cons_of_mem _ h9)
  refine lv_aload_n hx hb d_D_letters_0 rfl (lv_at hl 0 rfl) ?_
  refine lv_iconst (v := (0 : Int32)) hx hb d_D_letters_1 (by decide) ?_
  refine va_put (D := D) (ci := 6) (v := .int (0 : Int32)) (ty := .int) (C := "WindowMachineModel") (T := T_D) (N := 31) hx hb ht zi_D ty_D tyok_D nm_D hown hK hP hD hS 0 rfl rfl 3 (by decide) (ht _ zw_857) (fun _ h9 => h9) rfl (by decide +kernel) rfl rfl (Nat.le_of_ble_eq_true rfl) d_D_letters_2 (fun H locs hP hD hS => ?_)
  have hP : va_P D vwCl (wD h c (upd st.1 0 (0 : Int32), st.2.1, st.2.2.1, st.2.2.2.1, st.2.2.2.2.1, st.2.2.2.2.2)) H := hP
  have hD : va_D A (wD h c (upd st.1 0 (0 : Int32), st.2.1, st.2.2.1, st.2.2.2.1, st.2.2.2.2.1, st.2.2.2.2.2)) := hD
  refine lv_iconst (v := (0 : Int32)) hx hb d_D_letters_5 (by decide) ?_
  refine lv_istore_n (lv' := [(3, .int (0 : Int32)), (0, .ref (h 20)), (1, .long p0)]) hx hb d_D_letters_6 rfl hl (by decide) rfl (fun ls hl => ?_)
  refine lv_iconst (v := (0 : Int32)) hx hb d_D_letters_7 (by decide) ?_
  refine lv_istore (lv' := [(4, .int (0 : Int32)), (3, .int (0 : Int32)), (0, .ref (h 20)), (1, .long p0)]) hx hb d_D_letters_8 hl (by decide) rfl (fun ls hl => ?_)
  refine zcut (X := Nat × SD) (G := fun v9 H locs ls => m_letters st p0 = fg_D_letters_86 st p0 v9.1 v9.2 ∧ (v9.1 ≤ 8 ∧ (v9.2).1 1 = st.1 1) ∧ va_P D vwCl (wD h c v9.2) H ∧ va_D A (wD h c v9.2) ∧ va_S A s.heap H locs ∧ lv_has ls 6 [(0, .ref (h 20)), (1, .long p0), (3, .int (nI v9.1))]) (fr := fun v9 ls => F0 m 86 ls []) (fun J_3 => ?_) (fun v9 H locs ls hG => ?_)
  · refine zloop (X := Nat × Nat × SD) (G := fun n9 v9 H locs ls => m_letters st p0 = fl_D_letters_10 st p0 n9 v9.1 v9.2.1 v9.2.2 ∧ (v9.2.1 + n9 = 10 ∧ v9.2.1 ≤ 8 ∧ v9.1 ≤ v9.2.1 ∧ (v9.2.2).1 1 = st.1 1) ∧ va_P D vwCl (wD h c v9.2.2) H ∧ va_D A (wD h c v9.2.2) ∧ va_S A s.heap H locs ∧ lv_has ls 6 [(0, .ref (h 20)), (1, .long p0), (3, .int (nI v9.1)), (4, .int (nI v9.2.1))]) (fr := fun v9 ls => F0 m 10 ls []) (n := 10) (v := (0, 0, (upd st.1 0 (0 : Int32), st.2.1, st.2.2.1, st.2.2.2.1, st.2.2.2.2.1, st.2.2.2.2.2))) (fun n9 ih v9 H locs ls hG => ?_) (fun v9 H locs ls hG => ?_) ⟨(by simp only [m_letters]), ⟨rfl, by dsimp only; omega, by dsimp only; omega, rfl⟩, hP, hD, hS, (lv_sub hl [2, 3, 1, 0] rfl)⟩
    · obtain ⟨i_4, i_5, u_6⟩ := v9
      obtain ⟨hF_7, hI, hP, hD, hS, hl⟩ := hG
      dsimp only at hF_7 hI hP hD hl
      refine lv_iload hx hb d_D_letters_10 (lv_at hl 3 rfl) ?_
      refine lv_bipush (v := (8 : Int32)) hx hb d_D_letters_12 (by decide) ?_
      refine lv_icmp_ge (tgt := 86) hx hb d_D_letters_14 (by decide) (fun c_8 => ?_) (fun c_8 => ?_)
      · exact J_3 (i_4, u_6) _ _ _ ⟨by rw [hF_7]; simp only [fl_D_letters_10, if_pos c_8], ⟨by dsimp only; omega, hI.2.2.2⟩, hP, hD, hS, (lv_sub hl [0, 1, 2] rfl)⟩
      refine lv_iload_n hx hb d_D_letters_17 rfl (lv_at hl 2 rfl) ?_
      refine lv_iload hx hb d_D_letters_18 (lv_at hl 3 rfl) ?_
      refine lv_icmp_ne (tgt := 86) hx hb d_D_letters_20 (by decide) (fun c_9 => ?_) (fun c_9 => ?_)
      · exact J_3 (i_4, u_6) _ _ _ ⟨by rw [hF_7]; simp only [fl_D_letters_10, if_neg c_8, if_neg c_9], ⟨by dsimp only; omega, hI.2.2.2⟩, hP, hD, hS, (lv_sub hl [0, 1, 2] rfl)⟩
      refine lv_lload_n hx hb d_D_letters_23 rfl (lv_at hl 1 rfl) ?_
      refine lv_bipush (v := (8 : Int32)) hx hb d_D_letters_24 (by decide) ?_
      refine lv_iload hx hb d_D_letters_26 (lv_at hl 3 rfl) ?_
      refine lv_imul hx hb d_D_letters_28 ?_
      refine lv_lushr (v := zlushr p0 ((8 : Int32) * (nI i_5))) hx hb d_D_letters_29 rfl ?_
      refine lv_ldc2 (v := (255 : Int64)) hx hb hown (ht _ zw_1101) d_D_letters_30 ?_
      refine lv_land hx hb d_D_letters_33 ?_
      refine lv_l2i (v := ((zlushr p0 ((8 : Int32) * (nI i_5))) &&& (255 : Int64)).toInt32) hx hb d_D_letters_34 rfl ?_
      refine lv_topi (fun x_10 ex_10 => ?_)
      refine lv_istore (lv' := [(5, .int x_10), (0, .ref (h 20)), (1, .long p0), (3, .int (nI i_4)), (4, .int (nI i_5))]) hx hb d_D_letters_35 hl (by decide) rfl (fun ls hl => ?_)
      refine lv_aload_n hx hb d_D_letters_37 rfl (lv_at hl 1 rfl) ?_
      refine lv_iload hx hb d_D_letters_38 (lv_at hl 0 rfl) ?_
      refine zcut (X := Int32) (G := fun v9 H locs ls => v9 = (if x_10 = (0 : Int32) then (0 : Int32) else (if (m_in x_10.toInt64 (32 : Int64) (126 : Int64)) = (0 : Int32) then (1 : Int32) else (0 : Int32))) ∧ va_P D vwCl (wD h c u_6) H ∧ va_D A (wD h c u_6) ∧ va_S A s.heap H locs ∧ lv_has ls 6 [(0, .ref (h 20)), (1, .long p0), (3, .int (nI i_4)), (4, .int (nI i_5)), (5, .int x_10)]) (fr := fun v9 ls => F0 m 63 ls [.int v9, .ref (h 20)]) (fun J_12 => ?_) (fun v9 H locs ls hG => ?_)
      · refine lv_if_eq (tgt := 62) hx hb d_D_letters_40 (by decide) (fun c_13 => ?_) (fun c_13 => ?_)
        · refine lv_iconst (v := (0 : Int32)) hx hb d_D_letters_62 (by decide) ?_
          exact J_12 (0 : Int32) _ _ _ ⟨by simp only [if_pos c_13], hP, hD, hS, (lv_sub hl [1, 2, 3, 4, 0] rfl)⟩
        refine lv_iload hx hb d_D_letters_43 (lv_at hl 0 rfl) ?_
        refine lv_i2l (v := x_10.toInt64) hx hb d_D_letters_45 rfl ?_
        refine lv_ldc2 (v := (32 : Int64)) hx hb hown (ht _ zw_1102) d_D_letters_46 ?_
        refine lv_ldc2 (v := (126 : Int64)) hx hb hown (ht _ zw_1103) d_D_letters_49 ?_
        refine zc_i (w2 := fun _ => wD h c u_6) (va_runS (As := [.long x_10.toInt64, .long (32 : Int64), .long (126 : Int64)]) (rest := [.ref (h 20)]) ⟨hx, hb, hml, hown, ht⟩ (mt_D_in l D H.size x_10.toInt64 (32 : Int64) (126 : Int64)) (cwS 3 ht (zgS zw_961 zw_962 zw_7 zw_963) rfl rfl rfl kd_D_in ⟨Nat.le_of_ble_eq_true rfl, Nat.le_of_ble_eq_true rfl⟩) ⟨zw_blind zw_tt, zw_go (hP.sub (ws' := []) [] rfl) (hD.sub (ws' := []) [] (by decide) rfl) (hK.sub (tys' := []) [] rfl) (fun _ _ _ => trivial)⟩ rfl rfl hl.1 rfl (lv_room (Nat.le_of_ble_eq_true rfl)) d_D_letters_52 ⟨Nat.le_of_ble_eq_true rfl, Nat.le_of_ble_eq_true rfl⟩) hP hD hS hA [] [0, 1, 2, 3, 4, 5, 6, 7, 8] [0, 1, 2, 3, 4, 5, 6, 7, 8] rfl rfl (by decide) (by decide) (by decide) (fun _ => rfl) (fun r_14 _ H locs hw hP hD hS => ?_)
        subst hw
        refine lv_if_ne (tgt := 62) hx hb d_D_letters_55 (by decide) (fun c_15 => ?_) (fun c_15 => ?_)
        · refine lv_iconst (v := (0 : Int32)) hx hb d_D_letters_62 (by decide) ?_
          exact J_12 (0 : Int32) _ _ _ ⟨by simp only [if_neg c_13, if_neg c_15], hP, hD, hS, (lv_sub hl [1, 2, 3, 4, 0] rfl)⟩
        refine lv_iconst (v := (1 : Int32)) hx hb d_D_letters_58 (by decide) ?_
        refine lv_goto (tgt := 63) hx hb d_D_letters_59 (by decide) ?_
        exact J_12 (1 : Int32) _ _ _ ⟨by simp only [if_neg c_13, if_pos c_15], hP, hD, hS, (lv_sub hl [1, 2, 3, 4, 0] rfl)⟩
      obtain ⟨x_11, rfl⟩ : ∃ z, z = v9 := ⟨_, rfl⟩
      obtain ⟨ex_11, hP, hD, hS, hl⟩ := hG
      have zbx_11 : zB x_11 := by rw [ex_11]; repeat' first | with_reducible exact zB0 | with_reducible exact zB1 | with_reducible assumption | with_reducible refine zB_ite ?_ ?_
      refine lv_iconst (v := (1 : Int32)) hx hb d_D_letters_63 (by decide) ?_
      refine zc_i (w2 := fun u9 => wD h c u9) (va_runV (As := [.int x_11, .int (1 : Int32)]) (rest := []) ⟨hx, hb, hml, hown, ht⟩ (mt_D_fails l D h c H.size u_6 x_11 (1 : Int32)) (cwV 2 ht (zgV zw_964 zw_966 zs_53 zw_7 zw_967) rfl rfl rfl kd_D_fails ⟨Nat.le_of_ble_eq_true rfl, Nat.le_of_ble_eq_true rfl⟩) ⟨zw_blind zw_tt, va_recv (hK.sub (tys' := [(c 21, .long), (c 22, .int), (c 23, .int), (c 24, .int), (c 25, .int), (c 26, .int), (c 27, .int), (c 28, .int)]) [0, 1, 2, 3, 4, 5, 6, 7] rfl) (hP.sub (ws' := wD h c u_6) [0, 1, 2, 3, 4, 5, 6, 7, 8] rfl) (ci := 6) (q0 := 0) rfl rfl, zw_go (hP.sub (ws' := wD h c u_6) [0, 1, 2, 3, 4, 5, 6, 7, 8] rfl) (hD.sub (ws' := wD h c u_6) [0, 1, 2, 3, 4, 5, 6, 7, 8] (by decide) rfl) (hK.sub (tys' := [(c 21, .long), (c 22, .int), (c 23, .int), (c 24, .int), (c 25, .int), (c 26, .int), (c 27, .int), (c 28, .int)]) [0, 1, 2, 3, 4, 5, 6, 7] rfl) (fun _ _ _ => trivial)⟩ rfl rfl hl.1 rfl (lv_room (Nat.le_of_ble_eq_true rfl)) d_D_letters_64 ⟨Nat.le_of_ble_eq_true rfl, Nat.le_of_ble_eq_true rfl⟩) hP hD hS hA [0, 1, 2, 3, 4, 5, 6, 7, 8] [] [0, 1, 2, 3, 4, 5, 6, 7, 8] rfl rfl (by decide) (by decide) (by decide) (fun _ => rfl) (fun r_16 u_16 H locs hw hP hD hS => ?_)
      obtain ⟨er_16, eu_16⟩ := hw
      refine lv_if_eq (tgt := 72) hx hb d_D_letters_67 (by decide) (fun c_17 => ?_) (fun c_17 => ?_)
      · refine lv_iload hx hb d_D_letters_72 (lv_at hl 4 rfl) ?_
        refine lv_if_eq (tgt := 80) hx hb d_D_letters_74 (by decide) (fun c_18 => ?_) (fun c_18 => ?_)
        · refine lv_iinc (v := (nI i_5) + (1 : Int32)) (lv' := [(4, .int ((nI i_5) + (1 : Int32))), (0, .ref (h 20)), (1, .long p0), (3, .int (nI i_4)), (5, .int x_10)]) hx hb d_D_letters_80 hl (k := 3) rfl rfl (by decide) rfl (fun ls hl => ?_)
          refine lv_goto (tgt := 10) hx hb d_D_letters_83 (by decide) ?_
          have hl : lv_has ls 6 [(0, .ref (h 20)), (1, .long p0), (3, .int (nI i_4)), (4, .int (nI (i_5 + 1)))] := by rw [← nI_1 i_5]; exact (lv_sub hl [1, 2, 3, 0] rfl)
          exact ih (i_4, i_5 + 1, u_16) _ _ _ ⟨by rw [hF_7]; simp only [fl_D_letters_10, ← ex_10, ← ex_11, ← er_16, ← eu_16, if_neg c_8, if_pos c_9, if_pos c_17, if_pos c_18], (le_b1 hI c_8 eu_16), hP, hD, hS, hl⟩
        refine lv_iinc (v := (nI i_4) + (1 : Int32)) (lv' := [(3, .int ((nI i_4) + (1 : Int32))), (0, .ref (h 20)), (1, .long p0), (4, .int (nI i_5)), (5, .int x_10)]) hx hb d_D_letters_77 hl (k := 2) rfl rfl (by decide) rfl (fun ls hl => ?_)
        refine lv_iinc (v := (nI i_5) + (1 : Int32)) (lv' := [(4, .int ((nI i_5) + (1 : Int32))), (3, .int ((nI i_4) + (1 : Int32))), (0, .ref (h 20)), (1, .long p0), (5, .int x_10)]) hx hb d_D_letters_80 hl (k := 3) rfl rfl (by decide) rfl (fun ls hl => ?_)
        refine lv_goto (tgt := 10) hx hb d_D_letters_83 (by decide) ?_
        have hl : lv_has ls 6 [(0, .ref (h 20)), (1, .long p0), (3, .int (nI (i_4 + 1))), (4, .int (nI (i_5 + 1)))] := by rw [← nI_1 i_4, ← nI_1 i_5]; exact (lv_sub hl [2, 3, 1, 0] rfl)
        exact ih (i_4 + 1, i_5 + 1, u_16) _ _ _ ⟨by rw [hF_7]; simp only [fl_D_letters_10, ← ex_10, ← ex_11, ← er_16, ← eu_16, if_neg c_8, if_pos c_9, if_pos c_17, if_neg c_18], (le_b2 hI c_8 eu_16), hP, hD, hS, hl⟩
      refine lv_iconst (v := (0 : Int32)) hx hb d_D_letters_70 (by decide) ?_
      exact zl_i (u := u_16) hx hb hr hlocks hS hP hD (⟨by rw [hF_7]; simp only [fl_D_letters_10, ← ex_10, ← ex_11, ← er_16, ← eu_16, if_neg c_8, if_pos c_9, if_neg c_17], by rw [hF_7]; simp only [fl_D_letters_10, ← ex_10, ← ex_11, ← er_16, ← eu_16, if_neg c_8, if_pos c_9, if_neg c_17]⟩) d_D_letters_71
    · obtain ⟨i_4, i_5, u_6⟩ := v9
      obtain ⟨-, hI, -⟩ := hG
      dsimp only at hI
      exact (by omega)
  obtain ⟨i_1, u_2⟩ := v9
  obtain ⟨hF_19, hI_20, hP, hD, hS, hl⟩ := hG
  dsimp only at hF_19 hI_20 hP hD hl
  refine lv_aload_n hx hb d_D_letters_86 rfl (lv_at hl 0 rfl) ?_
  refine lv_iload_n hx hb d_D_letters_87 rfl (lv_at hl 2 rfl) ?_
  refine zcut (X := Int32) (G := fun v9 H locs ls => v9 = (if (nI i_1) = (0 : Int32) then (1 : Int32) else (0 : Int32)) ∧ va_P D vwCl (wD h c u_2) H ∧ va_D A (wD h c u_2) ∧ va_S A s.heap H locs ∧ lv_has ls 6 [(0, .ref (h 20)), (1, .long p0), (3, .int (nI i_1))]) (fr := fun v9 ls => F0 m 96 ls [.int v9, .ref (h 20)]) (fun J_22 => ?_) (fun v9 H locs ls hG => ?_)
  · refine lv_if_ne (tgt := 95) hx hb d_D_letters_88 (by decide) (fun c_23 => ?_) (fun c_23 => ?_)
    · refine lv_iconst (v := (0 : Int32)) hx hb d_D_letters_95 (by decide) ?_
      exact J_22 (0 : Int32) _ _ _ ⟨by simp only [if_neg c_23], hP, hD, hS, hl⟩
    refine lv_iconst (v := (1 : Int32)) hx hb d_D_letters_91 (by decide) ?_
    refine lv_goto (tgt := 96) hx hb d_D_letters_92 (by decide) ?_
    exact J_22 (1 : Int32) _ _ _ ⟨by simp only [if_pos c_23], hP, hD, hS, hl⟩
  obtain ⟨x_21, rfl⟩ : ∃ z, z = v9 := ⟨_, rfl⟩
  obtain ⟨ex_21, hP, hD, hS, hl⟩ := hG
  have zbx_21 : zB x_21 := by rw [ex_21]; repeat' first | with_reducible exact zB0 | with_reducible exact zB1 | with_reducible assumption | with_reducible refine zB_ite ?_ ?_
  refine lv_iconst (v := (1 : Int32)) hx hb d_D_letters_96 (by decide) ?_
  refine zc_i (w2 := fun u9 => wD h c u9) (va_runV (As := [.int x_21, .int (1 : Int32)]) (rest := []) ⟨hx, hb, hml, hown, ht⟩ (mt_D_fails l D h c H.size u_2 x_21 (1 : Int32)) (cwV 2 ht (zgV zw_964 zw_966 zs_53 zw_7 zw_967) rfl rfl rfl kd_D_fails ⟨Nat.le_of_ble_eq_true rfl, Nat.le_of_ble_eq_true rfl⟩) ⟨zw_blind zw_tt, va_recv (hK.sub (tys' := [(c 21, .long), (c 22, .int), (c 23, .int), (c 24, .int), (c 25, .int), (c 26, .int), (c 27, .int), (c 28, .int)]) [0, 1, 2, 3, 4, 5, 6, 7] rfl) (hP.sub (ws' := wD h c u_2) [0, 1, 2, 3, 4, 5, 6, 7, 8] rfl) (ci := 6) (q0 := 0) rfl rfl, zw_go (hP.sub (ws' := wD h c u_2) [0, 1, 2, 3, 4, 5, 6, 7, 8] rfl) (hD.sub (ws' := wD h c u_2) [0, 1, 2, 3, 4, 5, 6, 7, 8] (by decide) rfl) (hK.sub (tys' := [(c 21, .long), (c 22, .int), (c 23, .int), (c 24, .int), (c 25, .int), (c 26, .int), (c 27, .int), (c 28, .int)]) [0, 1, 2, 3, 4, 5, 6, 7] rfl) (fun _ _ _ => trivial)⟩ rfl rfl hl.1 rfl (lv_room (Nat.le_of_ble_eq_true rfl)) d_D_letters_97 ⟨Nat.le_of_ble_eq_true rfl, Nat.le_of_ble_eq_true rfl⟩) hP hD hS hA [0, 1, 2, 3, 4, 5, 6, 7, 8] [] [0, 1, 2, 3, 4, 5, 6, 7, 8] rfl rfl (by decide) (by decide) (by decide) (fun _ => rfl) (fun r_24 u_24 H locs hw hP hD hS => ?_)
  obtain ⟨er_24, eu_24⟩ := hw
  refine lv_if_ne (tgt := 127) hx hb d_D_letters_100 (by decide) (fun c_25 => ?_) (fun c_25 => ?_)
  · refine lv_iconst (v := (0 : Int32)) hx hb d_D_letters_127 (by decide) ?_
    exact zl_i (u := u_24) hx hb hr hlocks hS hP hD (⟨by rw [hF_19]; simp only [fg_D_letters_86, ← ex_21, ← er_24, ← eu_24, if_neg c_25], by rw [hF_19]; simp only [fg_D_letters_86, ← ex_21, ← er_24, ← eu_24, if_neg c_25]⟩) d_D_letters_128
  refine lv_aload_n hx hb d_D_letters_103 rfl (lv_at hl 0 rfl) ?_
  refine lv_aload_n hx hb d_D_letters_104 rfl (lv_at hl 0 rfl) ?_
  refine va_get (D := D) (ci := 6) (v := .int (u_24.1 1)) (C := "WindowMachineModel") (T := T_D) (N := 31) hx hb ht zi_D hown hK hP 0 rfl rfl 4 (by decide) (ht _ zw_858) (fun _ h9 => h9) rfl d_D_letters_105 ?_
  refine lv_iload_n hx hb d_D_letters_108 rfl (lv_at hl 2 rfl) ?_
  refine lv_iadd hx hb d_D_letters_109 ?_
  refine lv_bipush (v := (40 : Int32)) hx hb d_D_letters_110 (by decide) ?_
  refine zcut (X := Int32) (G := fun v9 H locs ls => v9 = (if ((u_24.1 1) + (nI i_1)) ≤ (40 : Int32) then (0 : Int32) else (1 : Int32)) ∧ va_P D vwCl (wD h c u_24) H ∧ va_D A (wD h c u_24) ∧ va_S A s.heap H locs ∧ lv_has ls 6 [(0, .ref (h 20)), (1, .long p0), (3, .int (nI i_1))]) (fr := fun v9 ls => F0 m 120 ls [.int v9, .ref (h 20)]) (fun J_27 => ?_) (fun v9 H locs ls hG => ?_)
  · refine lv_icmp_le (tgt := 119) hx hb d_D_letters_112 (by decide) (fun c_28 => ?_) (fun c_28 => ?_)
    · refine lv_iconst (v := (0 : Int32)) hx hb d_D_letters_119 (by decide) ?_
      exact J_27 (0 : Int32) _ _ _ ⟨by simp only [if_pos c_28], hP, hD, hS, hl⟩
    refine lv_iconst (v := (1 : Int32)) hx hb d_D_letters_115 (by decide) ?_
    refine lv_goto (tgt := 120) hx hb d_D_letters_116 (by decide) ?_
    exact J_27 (1 : Int32) _ _ _ ⟨by simp only [if_neg c_28], hP, hD, hS, hl⟩
  obtain ⟨x_26, rfl⟩ : ∃ z, z = v9 := ⟨_, rfl⟩
  obtain ⟨ex_26, hP, hD, hS, hl⟩ := hG
  have zbx_26 : zB x_26 := by rw [ex_26]; repeat' first | with_reducible exact zB0 | with_reducible exact zB1 | with_reducible assumption | with_reducible refine zB_ite ?_ ?_
  refine lv_iconst (v := (2 : Int32)) hx hb d_D_letters_120 (by decide) ?_
  refine zc_i (w2 := fun u9 => wD h c u9) (va_runV (As := [.int x_26, .int (2 : Int32)]) (rest := []) ⟨hx, hb, hml, hown, ht⟩ (mt_D_fails l D h c H.size u_24 x_26 (2 : Int32)) (cwV 2 ht (zgV zw_964 zw_966 zs_53 zw_7 zw_967) rfl rfl rfl kd_D_fails ⟨Nat.le_of_ble_eq_true rfl, Nat.le_of_ble_eq_true rfl⟩) ⟨zw_blind zw_tt, va_recv (hK.sub (tys' := [(c 21, .long), (c 22, .int), (c 23, .int), (c 24, .int), (c 25, .int), (c 26, .int), (c 27, .int), (c 28, .int)]) [0, 1, 2, 3, 4, 5, 6, 7] rfl) (hP.sub (ws' := wD h c u_24) [0, 1, 2, 3, 4, 5, 6, 7, 8] rfl) (ci := 6) (q0 := 0) rfl rfl, zw_go (hP.sub (ws' := wD h c u_24) [0, 1, 2, 3, 4, 5, 6, 7, 8] rfl) (hD.sub (ws' := wD h c u_24) [0, 1, 2, 3, 4, 5, 6, 7, 8] (by decide) rfl) (hK.sub (tys' := [(c 21, .long), (c 22, .int), (c 23, .int), (c 24, .int), (c 25, .int), (c 26, .int), (c 27, .int), (c 28, .int)]) [0, 1, 2, 3, 4, 5, 6, 7] rfl) (fun _ _ _ => trivial)⟩ rfl rfl hl.1 rfl (lv_room (Nat.le_of_ble_eq_true rfl)) d_D_letters_121 ⟨Nat.le_of_ble_eq_true rfl, Nat.le_of_ble_eq_true rfl⟩) hP hD hS hA [0, 1, 2, 3, 4, 5, 6, 7, 8] [] [0, 1, 2, 3, 4, 5, 6, 7, 8] rfl rfl (by decide) (by decide) (by decide) (fun _ => rfl) (fun r_29 u_29 H locs hw hP hD hS => ?_)
  obtain ⟨er_29, eu_29⟩ := hw
  refine lv_if_eq (tgt := 129) hx hb d_D_letters_124 (by decide) (fun c_30 => ?_) (fun c_30 => ?_)
  · refine lv_iconst (v := (0 : Int32)) hx hb d_D_letters_129 (by decide) ?_
    refine lv_istore (lv' := [(4, .int (0 : Int32)), (0, .ref (h 20)), (1, .long p0), (3, .int (nI i_1))]) hx hb d_D_letters_130 hl (by decide) rfl (fun ls hl => ?_)
    refine zloop (X := Nat × Nat × SD) (G := fun n9 v9 H locs ls => m_letters st p0 = fl_D_letters_132 st p0 n9 v9.1 v9.2.1 v9.2.2 ∧ (v9.2.1 + n9 = 10 ∧ v9.1 ≤ 8 ∧ v9.2.1 ≤ v9.1 ∧ (v9.2.2).1 1 = st.1 1 ∧ (st.1 1).toInt + (v9.1 : Int) ≤ 40) ∧ va_P D vwCl (wD h c v9.2.2) H ∧ va_D A (wD h c v9.2.2) ∧ va_S A s.heap H locs ∧ lv_has ls 6 [(0, .ref (h 20)), (1, .long p0), (3, .int (nI v9.1)), (4, .int (nI v9.2.1))]) (fr := fun v9 ls => F0 m 132 ls []) (n := 10) (v := (i_1, 0, u_29)) (fun n9 ih v9 H locs ls hG => ?_) (fun v9 H locs ls hG => ?_) ⟨(by rw [hF_19]; simp only [fg_D_letters_86, ← ex_21, ← er_24, ← eu_24, ← ex_26, ← er_29, ← eu_29, if_pos c_25, if_pos c_30]), (le_i0 hL hI_20 eu_24 ex_26 er_29 eu_29 c_30), hP, hD, hS, (lv_sub hl [1, 2, 3, 0] rfl)⟩
    · obtain ⟨i_31, i_32, u_33⟩ := v9
      obtain ⟨hF_34, hI, hP, hD, hS, hl⟩ := hG
      dsimp only at hF_34 hI hP hD hl
      refine lv_iload hx hb d_D_letters_132 (lv_at hl 3 rfl) ?_
      refine lv_iload_n hx hb d_D_letters_134 rfl (lv_at hl 2 rfl) ?_
      refine lv_icmp_ge (tgt := 168) hx hb d_D_letters_135 (by decide) (fun c_35 => ?_) (fun c_35 => ?_)
      · refine lv_aload_n hx hb d_D_letters_168 rfl (lv_at hl 0 rfl) ?_
        refine lv_dup hx hb d_D_letters_169 rfl ?_
        refine va_get (D := D) (ci := 6) (v := .int (u_33.1 1)) (C := "WindowMachineModel") (T := T_D) (N := 31) hx hb ht zi_D hown hK hP 0 rfl rfl 4 (by decide) (ht _ zw_858) (fun _ h9 => h9) rfl d_D_letters_170 ?_
        refine lv_iload_n hx hb d_D_letters_173 rfl (lv_at hl 2 rfl) ?_
        refine lv_iadd hx hb d_D_letters_174 ?_
        refine va_put (D := D) (ci := 6) (v := .int ((u_33.1 1) + (nI i_31))) (ty := .int) (C := "WindowMachineModel") (T := T_D) (N := 31) hx hb ht zi_D ty_D tyok_D nm_D hown hK hP hD hS 0 rfl rfl 4 (by decide) (ht _ zw_858) (fun _ h9 => h9) rfl (by decide +kernel) rfl rfl (Nat.le_of_ble_eq_true rfl) d_D_letters_175 (fun H locs hP hD hS => ?_)
        have hP : va_P D vwCl (wD h c (upd u_33.1 1 ((u_33.1 1) + (nI i_31)), u_33.2.1, u_33.2.2.1, u_33.2.2.2.1, u_33.2.2.2.2.1, u_33.2.2.2.2.2)) H := hP
        have hD : va_D A (wD h c (upd u_33.1 1 ((u_33.1 1) + (nI i_31)), u_33.2.1, u_33.2.2.1, u_33.2.2.2.1, u_33.2.2.2.2.1, u_33.2.2.2.2.2)) := hD
        refine lv_aload_n hx hb d_D_letters_178 rfl (lv_at hl 0 rfl) ?_
        refine va_get (D := D) (ci := 6) (v := .int ((u_33.1 1) + (nI i_31))) (C := "WindowMachineModel") (T := T_D) (N := 31) hx hb ht zi_D hown hK hP 0 rfl rfl 4 (by decide) (ht _ zw_858) (fun _ h9 => h9) rfl d_D_letters_179 ?_
        exact zl_i (u := (upd u_33.1 1 ((u_33.1 1) + (nI i_31)), u_33.2.1, u_33.2.2.1, u_33.2.2.2.1, u_33.2.2.2.2.1, u_33.2.2.2.2.2)) hx hb hr hlocks hS hP hD (⟨by rw [hF_34]; simp only [fl_D_letters_132, if_pos c_35], by rw [hF_34]; simp only [fl_D_letters_132, if_pos c_35]⟩) d_D_letters_182
      refine lv_aload_n hx hb d_D_letters_138 rfl (lv_at hl 0 rfl) ?_
      refine va_get (D := D) (ci := 6) (v := .ref (h 24)) (C := "WindowMachineModel") (T := T_D) (N := 31) hx hb ht zi_D hown hK hP 0 rfl rfl 7 (by decide) (ht _ zw_861) (fun _ h9 => h9) rfl d_D_letters_139 ?_
      refine lv_aload_n hx hb d_D_letters_142 rfl (lv_at hl 0 rfl) ?_
      refine va_get (D := D) (ci := 6) (v := .int (u_33.1 1)) (C := "WindowMachineModel") (T := T_D) (N := 31) hx hb ht zi_D hown hK hP 0 rfl rfl 4 (by decide) (ht _ zw_858) (fun _ h9 => h9) rfl d_D_letters_143 ?_
      refine lv_iload hx hb d_D_letters_146 (lv_at hl 3 rfl) ?_
      refine lv_iadd hx hb d_D_letters_148 ?_
      refine lv_lload_n hx hb d_D_letters_149 rfl (lv_at hl 1 rfl) ?_
      refine lv_bipush (v := (8 : Int32)) hx hb d_D_letters_150 (by decide) ?_
      refine lv_iload hx hb d_D_letters_152 (lv_at hl 3 rfl) ?_
      refine lv_imul hx hb d_D_letters_154 ?_
      refine lv_lushr (v := zlushr p0 ((8 : Int32) * (nI i_32))) hx hb d_D_letters_155 rfl ?_
      refine lv_ldc2 (v := (255 : Int64)) hx hb hown (ht _ zw_1101) d_D_letters_156 ?_
      refine lv_land hx hb d_D_letters_159 ?_
      refine lv_l2i (v := ((zlushr p0 ((8 : Int32) * (nI i_32))) &&& (255 : Int64)).toInt32) hx hb d_D_letters_160 rfl ?_
      refine va_iast hx hb hK hP hD hS 4 3 rfl rfl (le_ix hL hI c_35) d_D_letters_161 (fun H locs hP hD hS => ?_)
      have hP : va_P D vwCl (wD h c (u_33.1, upd u_33.2.1 ((u_33.1 1) + (nI i_32)).toNatClampNeg (((zlushr p0 ((8 : Int32) * (nI i_32))) &&& (255 : Int64)).toInt32), u_33.2.2.1, u_33.2.2.2.1, u_33.2.2.2.2.1, u_33.2.2.2.2.2)) H := hP
      have hD : va_D A (wD h c (u_33.1, upd u_33.2.1 ((u_33.1 1) + (nI i_32)).toNatClampNeg (((zlushr p0 ((8 : Int32) * (nI i_32))) &&& (255 : Int64)).toInt32), u_33.2.2.1, u_33.2.2.2.1, u_33.2.2.2.2.1, u_33.2.2.2.2.2)) := hD
      refine lv_iinc (v := (nI i_32) + (1 : Int32)) (lv' := [(4, .int ((nI i_32) + (1 : Int32))), (0, .ref (h 20)), (1, .long p0), (3, .int (nI i_31))]) hx hb d_D_letters_162 hl (k := 3) rfl rfl (by decide) rfl (fun ls hl => ?_)
      refine lv_goto (tgt := 132) hx hb d_D_letters_165 (by decide) ?_
      have hl : lv_has ls 6 [(0, .ref (h 20)), (1, .long p0), (3, .int (nI i_31)), (4, .int (nI (i_32 + 1)))] := by rw [← nI_1 i_32]; exact (lv_sub hl [1, 2, 3, 0] rfl)
      exact ih (i_31, i_32 + 1, (u_33.1, upd u_33.2.1 ((u_33.1 1) + (nI i_32)).toNatClampNeg (((zlushr p0 ((8 : Int32) * (nI i_32))) &&& (255 : Int64)).toInt32), u_33.2.2.1, u_33.2.2.2.1, u_33.2.2.2.2.1, u_33.2.2.2.2.2)) _ _ _ ⟨by rw [hF_34]; simp only [fl_D_letters_132, if_neg c_35], (le_b3 hI c_35), hP, hD, hS, hl⟩
    · obtain ⟨i_31, i_32, u_33⟩ := v9
      obtain ⟨-, hI, -⟩ := hG
      dsimp only at hI
      exact (by omega)
  refine lv_iconst (v := (0 : Int32)) hx hb d_D_letters_127 (by decide) ?_
  exact zl_i (u := u_29) hx hb hr hlocks hS hP hD (⟨by rw [hF_19]; simp only [fg_D_letters_86, ← ex_21, ← er_24, ← eu_24, ← ex_26, ← er_29, ← eu_29, if_pos c_25, if_neg c_30], by rw [hF_19]; simp only [fg_D_letters_86, ← ex_21, ← er_24, ← eu_24, ← ex_26, ← er_29, ← eu_29, if_pos c_25, if_neg c_30]⟩) d_D_letters_128
