theorem d_D_mode_0 : decode c_D_mode 0 = .ok (.aload_n 0, 1) := by decide +kernel
theorem d_D_mode_1 : decode c_D_mode 1 = .ok (.iconst 0, 1) := by decide +kernel
theorem d_D_mode_2 : decode c_D_mode 2 = .ok (.putfield 228, 3) := by decide +kernel
theorem d_D_mode_5 : decode c_D_mode 5 = .ok (.aload_n 0, 1) := by decide +kernel
theorem d_D_mode_6 : decode c_D_mode 6 = .ok (.iload_n 1, 1) := by decide +kernel
theorem d_D_mode_7 : decode c_D_mode 7 = .ok (.i2l, 1) := by decide +kernel
theorem d_D_mode_8 : decode c_D_mode 8 = .ok (.lconst 0, 1) := by decide +kernel
theorem d_D_mode_9 : decode c_D_mode 9 = .ok (.ldc2_w 400, 3) := by decide +kernel
theorem d_D_mode_12 : decode c_D_mode 12 = .ok (.invokestatic 282, 3) := by decide +kernel
theorem d_D_mode_15 : decode c_D_mode 15 = .ok (.ifCond .eq 28, 3) := by decide +kernel
theorem d_D_mode_18 : decode c_D_mode 18 = .ok (.iload_n 3, 1) := by decide +kernel
theorem d_D_mode_19 : decode c_D_mode 19 = .ok (.i2l, 1) := by decide +kernel
theorem d_D_mode_20 : decode c_D_mode 20 = .ok (.lconst 0, 1) := by decide +kernel
theorem d_D_mode_21 : decode c_D_mode 21 = .ok (.ldc2_w 400, 3) := by decide +kernel
theorem d_D_mode_24 : decode c_D_mode 24 = .ok (.invokestatic 282, 3) := by decide +kernel
theorem d_D_mode_27 : decode c_D_mode 27 = .ok (.ifCond .eq 16, 3) := by decide +kernel
theorem d_D_mode_30 : decode c_D_mode 30 = .ok (.iload 5, 2) := by decide +kernel
theorem d_D_mode_32 : decode c_D_mode 32 = .ok (.i2l, 1) := by decide +kernel
theorem d_D_mode_33 : decode c_D_mode 33 = .ok (.lconst 0, 1) := by decide +kernel
theorem d_D_mode_34 : decode c_D_mode 34 = .ok (.ldc2_w 402, 3) := by decide +kernel
theorem d_D_mode_37 : decode c_D_mode 37 = .ok (.invokestatic 282, 3) := by decide +kernel
theorem d_D_mode_40 : decode c_D_mode 40 = .ok (.ifCond .ne 7, 3) := by decide +kernel
theorem d_D_mode_43 : decode c_D_mode 43 = .ok (.iconst 1, 1) := by decide +kernel
theorem d_D_mode_44 : decode c_D_mode 44 = .ok (.goto 4, 3) := by decide +kernel
theorem d_D_mode_47 : decode c_D_mode 47 = .ok (.iconst 0, 1) := by decide +kernel
theorem d_D_mode_48 : decode c_D_mode 48 = .ok (.iconst 1, 1) := by decide +kernel
theorem d_D_mode_49 : decode c_D_mode 49 = .ok (.invokevirtual 290, 3) := by decide +kernel
theorem d_D_mode_52 : decode c_D_mode 52 = .ok (.ifCond .eq 5, 3) := by decide +kernel
theorem d_D_mode_55 : decode c_D_mode 55 = .ok (.iconst 0, 1) := by decide +kernel
theorem d_D_mode_56 : decode c_D_mode 56 = .ok (.ireturn, 1) := by decide +kernel
theorem d_D_mode_57 : decode c_D_mode 57 = .ok (.aload_n 0, 1) := by decide +kernel
theorem d_D_mode_58 : decode c_D_mode 58 = .ok (.iload_n 1, 1) := by decide +kernel
theorem d_D_mode_59 : decode c_D_mode 59 = .ok (.bipush 8, 2) := by decide +kernel
theorem d_D_mode_61 : decode c_D_mode 61 = .ok (.iand, 1) := by decide +kernel
theorem d_D_mode_62 : decode c_D_mode 62 = .ok (.ifCond .le 7, 3) := by decide +kernel
theorem d_D_mode_65 : decode c_D_mode 65 = .ok (.iconst 1, 1) := by decide +kernel
theorem d_D_mode_66 : decode c_D_mode 66 = .ok (.goto 4, 3) := by decide +kernel
theorem d_D_mode_69 : decode c_D_mode 69 = .ok (.iconst 0, 1) := by decide +kernel
theorem d_D_mode_70 : decode c_D_mode 70 = .ok (.putfield 255, 3) := by decide +kernel
theorem d_D_mode_73 : decode c_D_mode 73 = .ok (.aload_n 0, 1) := by decide +kernel
theorem d_D_mode_74 : decode c_D_mode 74 = .ok (.iload_n 1, 1) := by decide +kernel
theorem d_D_mode_75 : decode c_D_mode 75 = .ok (.iconst 4, 1) := by decide +kernel
theorem d_D_mode_76 : decode c_D_mode 76 = .ok (.iand, 1) := by decide +kernel
theorem d_D_mode_77 : decode c_D_mode 77 = .ok (.ifCond .le 7, 3) := by decide +kernel
theorem d_D_mode_80 : decode c_D_mode 80 = .ok (.iconst 1, 1) := by decide +kernel
theorem d_D_mode_81 : decode c_D_mode 81 = .ok (.goto 4, 3) := by decide +kernel
theorem d_D_mode_84 : decode c_D_mode 84 = .ok (.iconst 0, 1) := by decide +kernel
theorem d_D_mode_85 : decode c_D_mode 85 = .ok (.putfield 259, 3) := by decide +kernel
theorem d_D_mode_88 : decode c_D_mode 88 = .ok (.aload_n 0, 1) := by decide +kernel
theorem d_D_mode_89 : decode c_D_mode 89 = .ok (.iload_n 1, 1) := by decide +kernel
theorem d_D_mode_90 : decode c_D_mode 90 = .ok (.iconst 2, 1) := by decide +kernel
theorem d_D_mode_91 : decode c_D_mode 91 = .ok (.iand, 1) := by decide +kernel
theorem d_D_mode_92 : decode c_D_mode 92 = .ok (.ifCond .le 7, 3) := by decide +kernel
theorem d_D_mode_95 : decode c_D_mode 95 = .ok (.iconst 1, 1) := by decide +kernel
theorem d_D_mode_96 : decode c_D_mode 96 = .ok (.goto 4, 3) := by decide +kernel
theorem d_D_mode_99 : decode c_D_mode 99 = .ok (.iconst 0, 1) := by decide +kernel
theorem d_D_mode_100 : decode c_D_mode 100 = .ok (.putfield 262, 3) := by decide +kernel
theorem d_D_mode_103 : decode c_D_mode 103 = .ok (.aload_n 0, 1) := by decide +kernel
theorem d_D_mode_104 : decode c_D_mode 104 = .ok (.iload_n 1, 1) := by decide +kernel
theorem d_D_mode_105 : decode c_D_mode 105 = .ok (.iconst 1, 1) := by decide +kernel
theorem d_D_mode_106 : decode c_D_mode 106 = .ok (.iand, 1) := by decide +kernel
theorem d_D_mode_107 : decode c_D_mode 107 = .ok (.ifCond .le 7, 3) := by decide +kernel
theorem d_D_mode_110 : decode c_D_mode 110 = .ok (.iconst 1, 1) := by decide +kernel
theorem d_D_mode_111 : decode c_D_mode 111 = .ok (.goto 4, 3) := by decide +kernel
theorem d_D_mode_114 : decode c_D_mode 114 = .ok (.iconst 0, 1) := by decide +kernel
theorem d_D_mode_115 : decode c_D_mode 115 = .ok (.putfield 265, 3) := by decide +kernel
theorem d_D_mode_118 : decode c_D_mode 118 = .ok (.aload_n 0, 1) := by decide +kernel
theorem d_D_mode_119 : decode c_D_mode 119 = .ok (.iload_n 2, 1) := by decide +kernel
theorem d_D_mode_120 : decode c_D_mode 120 = .ok (.putfield 240, 3) := by decide +kernel
theorem d_D_mode_123 : decode c_D_mode 123 = .ok (.aload_n 0, 1) := by decide +kernel
theorem d_D_mode_124 : decode c_D_mode 124 = .ok (.iload_n 3, 1) := by decide +kernel
theorem d_D_mode_125 : decode c_D_mode 125 = .ok (.putfield 243, 3) := by decide +kernel
theorem d_D_mode_128 : decode c_D_mode 128 = .ok (.aload_n 0, 1) := by decide +kernel
theorem d_D_mode_129 : decode c_D_mode 129 = .ok (.iload 4, 2) := by decide +kernel
theorem d_D_mode_131 : decode c_D_mode 131 = .ok (.sipush (-4096), 3) := by decide +kernel
theorem d_D_mode_134 : decode c_D_mode 134 = .ok (.iand, 1) := by decide +kernel
theorem d_D_mode_135 : decode c_D_mode 135 = .ok (.putfield 246, 3) := by decide +kernel
theorem d_D_mode_138 : decode c_D_mode 138 = .ok (.aload_n 0, 1) := by decide +kernel
theorem d_D_mode_139 : decode c_D_mode 139 = .ok (.iload 5, 2) := by decide +kernel
theorem d_D_mode_141 : decode c_D_mode 141 = .ok (.iconst 4, 1) := by decide +kernel
theorem d_D_mode_142 : decode c_D_mode 142 = .ok (.iand, 1) := by decide +kernel
theorem d_D_mode_143 : decode c_D_mode 143 = .ok (.ifCond .le 7, 3) := by decide +kernel
theorem d_D_mode_146 : decode c_D_mode 146 = .ok (.iconst 1, 1) := by decide +kernel
theorem d_D_mode_147 : decode c_D_mode 147 = .ok (.goto 4, 3) := by decide +kernel
theorem d_D_mode_150 : decode c_D_mode 150 = .ok (.iconst 0, 1) := by decide +kernel
theorem d_D_mode_151 : decode c_D_mode 151 = .ok (.putfield 268, 3) := by decide +kernel
theorem d_D_mode_154 : decode c_D_mode 154 = .ok (.aload_n 0, 1) := by decide +kernel
theorem d_D_mode_155 : decode c_D_mode 155 = .ok (.iload 5, 2) := by decide +kernel
theorem d_D_mode_157 : decode c_D_mode 157 = .ok (.iconst 2, 1) := by decide +kernel
theorem d_D_mode_158 : decode c_D_mode 158 = .ok (.iand, 1) := by decide +kernel
theorem d_D_mode_159 : decode c_D_mode 159 = .ok (.ifCond .le 7, 3) := by decide +kernel
theorem d_D_mode_162 : decode c_D_mode 162 = .ok (.iconst 1, 1) := by decide +kernel
theorem d_D_mode_163 : decode c_D_mode 163 = .ok (.goto 4, 3) := by decide +kernel
theorem d_D_mode_166 : decode c_D_mode 166 = .ok (.iconst 0, 1) := by decide +kernel
theorem d_D_mode_167 : decode c_D_mode 167 = .ok (.putfield 271, 3) := by decide +kernel
theorem d_D_mode_170 : decode c_D_mode 170 = .ok (.aload_n 0, 1) := by decide +kernel
theorem d_D_mode_171 : decode c_D_mode 171 = .ok (.iload 5, 2) := by decide +kernel
theorem d_D_mode_173 : decode c_D_mode 173 = .ok (.iconst 1, 1) := by decide +kernel
theorem d_D_mode_174 : decode c_D_mode 174 = .ok (.iand, 1) := by decide +kernel
theorem d_D_mode_175 : decode c_D_mode 175 = .ok (.ifCond .le 7, 3) := by decide +kernel
theorem d_D_mode_178 : decode c_D_mode 178 = .ok (.iconst 1, 1) := by decide +kernel
theorem d_D_mode_179 : decode c_D_mode 179 = .ok (.goto 4, 3) := by decide +kernel
theorem d_D_mode_182 : decode c_D_mode 182 = .ok (.iconst 0, 1) := by decide +kernel
theorem d_D_mode_183 : decode c_D_mode 183 = .ok (.putfield 274, 3) := by decide +kernel
theorem d_D_mode_186 : decode c_D_mode 186 = .ok (.aload_n 0, 1) := by decide +kernel
theorem d_D_mode_187 : decode c_D_mode 187 = .ok (.getfield 237, 3) := by decide +kernel
theorem d_D_mode_190 : decode c_D_mode 190 = .ok (.ireturn, 1) := by decide +kernel
theorem kd_D_mode : (y_D_mode).cls = "WindowMachineModel" ∧ (y_D_mode).cls ≠ "java/lang/invoke/MethodHandle" ∧ (y_D_mode).cls ≠ "java/lang/invoke/VarHandle" ∧ (parseMethodDescriptor (y_D_mode).desc).map (fun d => d.parameters.length) = some 5 := by decide +kernel
def m_mode (st : SD) (p0 : Int32) (p1 : Int32) (p2 : Int32) (p3 : Int32) (p4 : Int32) : Int32 × SD := (let r_1 := m_in p0.toInt64 (0 : Int64) (15 : Int64); (let x_2 := (if r_1 = (0 : Int32) then (1 : Int32) else (if (m_in p2.toInt64 (0 : Int64) (15 : Int64)) = (0 : Int32) then (1 : Int32) else (if (m_in p4.toInt64 (0 : Int64) (7 : Int64)) = (0 : Int32) then (1 : Int32) else (0 : Int32)))); (let r_9 := (m_fails (upd st.1 0 (0 : Int32), st.2.1, st.2.2.1, st.2.2.2.1, st.2.2.2.2.1, st.2.2.2.2.2) x_2 (1 : Int32)).1; (let u_9 := (m_fails (upd st.1 0 (0 : Int32), st.2.1, st.2.2.1, st.2.2.2.1, st.2.2.2.2.1, st.2.2.2.2.2) x_2 (1 : Int32)).2; (if r_9 = (0 : Int32) then (let x_11 := (if (p0 &&& (8 : Int32)) ≤ (0 : Int32) then (0 : Int32) else (1 : Int32)); (let x_14 := (if (p0 &&& (4 : Int32)) ≤ (0 : Int32) then (0 : Int32) else (1 : Int32)); (let x_17 := (if (p0 &&& (2 : Int32)) ≤ (0 : Int32) then (0 : Int32) else (1 : Int32)); (let x_20 := (if (p0 &&& (1 : Int32)) ≤ (0 : Int32) then (0 : Int32) else (1 : Int32)); (let x_23 := (if (p4 &&& (4 : Int32)) ≤ (0 : Int32) then (0 : Int32) else (1 : Int32)); (let x_26 := (if (p4 &&& (2 : Int32)) ≤ (0 : Int32) then (0 : Int32) else (1 : Int32)); (let x_29 := (if (p4 &&& (1 : Int32)) ≤ (0 : Int32) then (0 : Int32) else (1 : Int32)); (u_9.1 6, (upd (upd (upd (upd (upd (upd (upd (upd (upd (upd u_9.1 13 x_11) 14 x_14) 15 x_17) 16 x_20) 7 p1) 8 p2) 9 (p3 &&& (-4096 : Int32))) 17 x_23) 18 x_26) 19 x_29, u_9.2.1, u_9.2.2.1, u_9.2.2.2.1, u_9.2.2.2.2.1, u_9.2.2.2.2.2))))))))) else ((0 : Int32), u_9))))))
set_option maxHeartbeats 4000000 in
set_option maxRecDepth 100000 in
theorem mt_D_mode (l : Launch) (D : va_G) (h : Nat → Nat) (c : Nat → ClassId) (sz : Nat) (st : SD) (p0 : Int32) (p1 : Int32) (p2 : Int32) (p3 : Int32) (p4 : Int32) : Met l y_D_mode w_D_mode ({ frames := 1, cells := 0, slots := 0, locals := 25 }) (va_Pc [.ref (h 20), .int p0, .int p1, .int p2, .int p3, .int p4] (zw_pre D vwCl [(c 21, .long), (c 22, .int), (c 23, .int), (c 24, .int), (c 25, .int), (c 26, .int), (c 27, .int), (c 28, .int)] sz (wD h c st) (fun _ => True))) (va_Qi (fun r (u : SD) => r = (m_mode st p0 p1 p2 p3 p4).1 ∧ u = (m_mode st p0 p1 p2 p3 p4).2) (fun u t => zw_at D vwCl (va_A (wD h c st) sz) ((fun (u : SD) => wD h c u) u) t) (va_A (wD h c st) sz)) 0 0 (va_A (wD h c st) sz) := by
  refine zm (Qf := fun A => va_Qi (fun r (u : SD) => r = (m_mode st p0 p1 p2 p3 p4).1 ∧ u = (m_mode st p0 p1 p2 p3 p4).2) (fun u t => zw_at D vwCl A ((fun (u : SD) => wD h c u) u) t) A) (Zf := fun _ _ => True) (cc := c_D_mode) (nL := 6) (ret := (some .int)) (by decide) rfl (Nat.le_of_ble_eq_true rfl) ?_
  intro p e s m below meth c9 A H locs ls hx hb hml hown hts hr hlocks hA hK hP hD hS hZ hl
  have hl : lv_has ls 6 [(0, .ref (h 20)), (1, .int p0), (2, .int p1), (3, .int p2), (4, .int p3), (5, .int p4)] := hl
  have ht : ∀ w9 ∈ zT, w9.before _ s = true := fun w9 h9 => hts w9 (List.mem_cons_of_mem _ h9)
  refine lv_aload_n hx hb d_D_mode_0 rfl (lv_at hl 0 rfl) ?_
  refine lv_iconst (v := (0 : Int32)) hx hb d_D_mode_1 (by decide) ?_
  refine va_put (D := D) (ci := 6) (v := .int (0 : Int32)) (ty := .int) (C := "WindowMachineModel") (T := T_D) (N := 31) hx hb ht zi_D ty_D tyok_D nm_D hown hK hP hD hS 0 rfl rfl 3 (by decide) (ht _ zw_857) (fun _ h9 => h9) rfl (by decide +kernel) rfl rfl (Nat.le_of_ble_eq_true rfl) d_D_mode_2 (fun H locs hP hD hS => ?_)
  have hP : va_P D vwCl (wD h c (upd st.1 0 (0 : Int32), st.2.1, st.2.2.1, st.2.2.2.1, st.2.2.2.2.1, st.2.2.2.2.2)) H := hP
  have hD : va_D A (wD h c (upd st.1 0 (0 : Int32), st.2.1, st.2.2.1, st.2.2.2.1, st.2.2.2.2.1, st.2.2.2.2.2)) := hD
  refine lv_aload_n hx hb d_D_mode_5 rfl (lv_at hl 0 rfl) ?_
  refine lv_iload_n hx hb d_D_mode_6 rfl (lv_at hl 1 rfl) ?_
  refine lv_i2l (v := p0.toInt64) hx hb d_D_mode_7 rfl ?_
  refine lv_lconst (v := (0 : Int64)) hx hb d_D_mode_8 (by decide) ?_
  refine lv_ldc2 (v := (15 : Int64)) hx hb hown (ht _ zw_1095) d_D_mode_9 ?_
  refine zc_i (w2 := fun _ => wD h c (upd st.1 0 (0 : Int32), st.2.1, st.2.2.1, st.2.2.2.1, st.2.2.2.2.1, st.2.2.2.2.2)) (va_runS (As := [.long p0.toInt64, .long (0 : Int64), .long (15 : Int64)]) (rest := [.ref (h 20)]) ⟨hx, hb, hml, hown, ht⟩ (mt_D_in l D H.size p0.toInt64 (0 : Int64) (15 : Int64)) (cwS 3 ht (zgS zw_961 zw_962 zw_7 zw_963) rfl rfl rfl kd_D_in ⟨Nat.le_of_ble_eq_true rfl, Nat.le_of_ble_eq_true rfl⟩) ⟨zw_blind zw_tt, zw_go (hP.sub (ws' := []) [] rfl) (hD.sub (ws' := []) [] (by decide) rfl) (hK.sub (tys' := []) [] rfl) (fun _ _ _ => trivial)⟩ rfl rfl hl.1 rfl (lv_room (Nat.le_of_ble_eq_true rfl)) d_D_mode_12 ⟨Nat.le_of_ble_eq_true rfl, Nat.le_of_ble_eq_true rfl⟩) hP hD hS hA [] [0, 1, 2, 3, 4, 5, 6, 7, 8] [0, 1, 2, 3, 4, 5, 6, 7, 8] rfl rfl (by decide) (by decide) (by decide) (fun _ => rfl) (fun r_1 _ H locs hw hP hD hS => ?_)
  have er_1 := hw
  refine zcut (X := Int32) (G := fun v9 H locs ls => v9 = (if r_1 = (0 : Int32) then (1 : Int32) else (if (m_in p2.toInt64 (0 : Int64) (15 : Int64)) = (0 : Int32) then (1 : Int32) else (if (m_in p4.toInt64 (0 : Int64) (7 : Int64)) = (0 : Int32) then (1 : Int32) else (0 : Int32)))) ∧ va_P D vwCl (wD h c (upd st.1 0 (0 : Int32), st.2.1, st.2.2.1, st.2.2.2.1, st.2.2.2.2.1, st.2.2.2.2.2)) H ∧ va_D A (wD h c (upd st.1 0 (0 : Int32), st.2.1, st.2.2.1, st.2.2.2.1, st.2.2.2.2.1, st.2.2.2.2.2)) ∧ va_S A s.heap H locs ∧ lv_has ls 6 [(0, .ref (h 20)), (1, .int p0), (2, .int p1), (3, .int p2), (4, .int p3), (5, .int p4)]) (fr := fun v9 ls => F0 m 48 ls [.int v9, .ref (h 20)]) (fun J_3 => ?_) (fun v9 H locs ls hG => ?_)
  · refine lv_if_eq (tgt := 43) hx hb d_D_mode_15 (by decide) (fun c_4 => ?_) (fun c_4 => ?_)
    · refine lv_iconst (v := (1 : Int32)) hx hb d_D_mode_43 (by decide) ?_
      refine lv_goto (tgt := 48) hx hb d_D_mode_44 (by decide) ?_
      exact J_3 (1 : Int32) _ _ _ ⟨by simp only [if_pos c_4], hP, hD, hS, hl⟩
    refine lv_iload_n hx hb d_D_mode_18 rfl (lv_at hl 3 rfl) ?_
    refine lv_i2l (v := p2.toInt64) hx hb d_D_mode_19 rfl ?_
    refine lv_lconst (v := (0 : Int64)) hx hb d_D_mode_20 (by decide) ?_
    refine lv_ldc2 (v := (15 : Int64)) hx hb hown (ht _ zw_1095) d_D_mode_21 ?_
    refine zc_i (w2 := fun _ => wD h c (upd st.1 0 (0 : Int32), st.2.1, st.2.2.1, st.2.2.2.1, st.2.2.2.2.1, st.2.2.2.2.2)) (va_runS (As := [.long p2.toInt64, .long (0 : Int64), .long (15 : Int64)]) (rest := [.ref (h 20)]) ⟨hx, hb, hml, hown, ht⟩ (mt_D_in l D H.size p2.toInt64 (0 : Int64) (15 : Int64)) (cwS 3 ht (zgS zw_961 zw_962 zw_7 zw_963) rfl rfl rfl kd_D_in ⟨Nat.le_of_ble_eq_true rfl, Nat.le_of_ble_eq_true rfl⟩) ⟨zw_blind zw_tt, zw_go (hP.sub (ws' := []) [] rfl) (hD.sub (ws' := []) [] (by decide) rfl) (hK.sub (tys' := []) [] rfl) (fun _ _ _ => trivial)⟩ rfl rfl hl.1 rfl (lv_room (Nat.le_of_ble_eq_true rfl)) d_D_mode_24 ⟨Nat.le_of_ble_eq_true rfl, Nat.le_of_ble_eq_true rfl⟩) hP hD hS hA [] [0, 1, 2, 3, 4, 5, 6, 7, 8] [0, 1, 2, 3, 4, 5, 6, 7, 8] rfl rfl (by decide) (by decide) (by decide) (fun _ => rfl) (fun r_5 _ H locs hw hP hD hS => ?_)
    subst hw
    refine lv_if_eq (tgt := 43) hx hb d_D_mode_27 (by decide) (fun c_6 => ?_) (fun c_6 => ?_)
    · refine lv_iconst (v := (1 : Int32)) hx hb d_D_mode_43 (by decide) ?_
      refine lv_goto (tgt := 48) hx hb d_D_mode_44 (by decide) ?_
      exact J_3 (1 : Int32) _ _ _ ⟨by simp only [if_neg c_4, if_pos c_6], hP, hD, hS, hl⟩
    refine lv_iload hx hb d_D_mode_30 (lv_at hl 5 rfl) ?_
    refine lv_i2l (v := p4.toInt64) hx hb d_D_mode_32 rfl ?_
    refine lv_lconst (v := (0 : Int64)) hx hb d_D_mode_33 (by decide) ?_
    refine lv_ldc2 (v := (7 : Int64)) hx hb hown (ht _ zw_1096) d_D_mode_34 ?_
    refine zc_i (w2 := fun _ => wD h c (upd st.1 0 (0 : Int32), st.2.1, st.2.2.1, st.2.2.2.1, st.2.2.2.2.1, st.2.2.2.2.2)) (va_runS (As := [.long p4.toInt64, .long (0 : Int64), .long (7 : Int64)]) (rest := [.ref (h 20)]) ⟨hx, hb, hml, hown, ht⟩ (mt_D_in l D H.size p4.toInt64 (0 : Int64) (7 : Int64)) (cwS 3 ht (zgS zw_961 zw_962 zw_7 zw_963) rfl rfl rfl kd_D_in ⟨Nat.le_of_ble_eq_true rfl, Nat.le_of_ble_eq_true rfl⟩) ⟨zw_blind zw_tt, zw_go (hP.sub (ws' := []) [] rfl) (hD.sub (ws' := []) [] (by decide) rfl) (hK.sub (tys' := []) [] rfl) (fun _ _ _ => trivial)⟩ rfl rfl hl.1 rfl (lv_room (Nat.le_of_ble_eq_true rfl)) d_D_mode_37 ⟨Nat.le_of_ble_eq_true rfl, Nat.le_of_ble_eq_true rfl⟩) hP hD hS hA [] [0, 1, 2, 3, 4, 5, 6, 7, 8] [0, 1, 2, 3, 4, 5, 6, 7, 8] rfl rfl (by decide) (by decide) (by decide) (fun _ => rfl) (fun r_7 _ H locs hw hP hD hS => ?_)
    subst hw
    refine lv_if_ne (tgt := 47) hx hb d_D_mode_40 (by decide) (fun c_8 => ?_) (fun c_8 => ?_)
    · refine lv_iconst (v := (0 : Int32)) hx hb d_D_mode_47 (by decide) ?_
      exact J_3 (0 : Int32) _ _ _ ⟨by simp only [if_neg c_4, if_neg c_6, if_neg c_8], hP, hD, hS, hl⟩
    refine lv_iconst (v := (1 : Int32)) hx hb d_D_mode_43 (by decide) ?_
    refine lv_goto (tgt := 48) hx hb d_D_mode_44 (by decide) ?_
    exact J_3 (1 : Int32) _ _ _ ⟨by simp only [if_neg c_4, if_neg c_6, if_pos c_8], hP, hD, hS, hl⟩
  obtain ⟨x_2, rfl⟩ : ∃ z, z = v9 := ⟨_, rfl⟩
  obtain ⟨ex_2, hP, hD, hS, hl⟩ := hG
  have zbx_2 : zB x_2 := by rw [ex_2]; repeat' first | with_reducible exact zB0 | with_reducible exact zB1 | with_reducible assumption | with_reducible refine zB_ite ?_ ?_
  refine lv_iconst (v := (1 : Int32)) hx hb d_D_mode_48 (by decide) ?_
  refine zc_i (w2 := fun u9 => wD h c u9) (va_runV (As := [.int x_2, .int (1 : Int32)]) (rest := []) ⟨hx, hb, hml, hown, ht⟩ (mt_D_fails l D h c H.size (upd st.1 0 (0 : Int32), st.2.1, st.2.2.1, st.2.2.2.1, st.2.2.2.2.1, st.2.2.2.2.2) x_2 (1 : Int32)) (cwV 2 ht (zgV zw_964 zw_966 zs_53 zw_7 zw_967) rfl rfl rfl kd_D_fails ⟨Nat.le_of_ble_eq_true rfl, Nat.le_of_ble_eq_true rfl⟩) ⟨zw_blind zw_tt, va_recv (hK.sub (tys' := [(c 21, .long), (c 22, .int), (c 23, .int), (c 24, .int), (c 25, .int), (c 26, .int), (c 27, .int), (c 28, .int)]) [0, 1, 2, 3, 4, 5, 6, 7] rfl) (hP.sub (ws' := wD h c (upd st.1 0 (0 : Int32), st.2.1, st.2.2.1, st.2.2.2.1, st.2.2.2.2.1, st.2.2.2.2.2)) [0, 1, 2, 3, 4, 5, 6, 7, 8] rfl) (ci := 6) (q0 := 0) rfl rfl, zw_go (hP.sub (ws' := wD h c (upd st.1 0 (0 : Int32), st.2.1, st.2.2.1, st.2.2.2.1, st.2.2.2.2.1, st.2.2.2.2.2)) [0, 1, 2, 3, 4, 5, 6, 7, 8] rfl) (hD.sub (ws' := wD h c (upd st.1 0 (0 : Int32), st.2.1, st.2.2.1, st.2.2.2.1, st.2.2.2.2.1, st.2.2.2.2.2)) [0, 1, 2, 3, 4, 5, 6, 7, 8] (by decide) rfl) (hK.sub (tys' := [(c 21, .long), (c 22, .int), (c 23, .int), (c 24, .int), (c 25, .int), (c 26, .int), (c 27, .int), (c 28, .int)]) [0, 1, 2, 3, 4, 5, 6, 7] rfl) (fun _ _ _ => trivial)⟩ rfl rfl hl.1 rfl (lv_room (Nat.le_of_ble_eq_true rfl)) d_D_mode_49 ⟨Nat.le_of_ble_eq_true rfl, Nat.le_of_ble_eq_true rfl⟩) hP hD hS hA [0, 1, 2, 3, 4, 5, 6, 7, 8] [] [0, 1, 2, 3, 4, 5, 6, 7, 8] rfl rfl (by decide) (by decide) (by decide) (fun _ => rfl) (fun r_9 u_9 H locs hw hP hD hS => ?_)
  obtain ⟨er_9, eu_9⟩ := hw
  refine lv_if_eq (tgt := 57) hx hb d_D_mode_52 (by decide) (fun c_10 => ?_) (fun c_10 => ?_)
  · refine lv_aload_n hx hb d_D_mode_57 rfl (lv_at hl 0 rfl) ?_
    refine lv_iload_n hx hb d_D_mode_58 rfl (lv_at hl 1 rfl) ?_
    refine lv_bipush (v := (8 : Int32)) hx hb d_D_mode_59 (by decide) ?_
    refine lv_iand hx hb d_D_mode_61 ?_
    refine zcut (X := Int32) (G := fun v9 H locs ls => v9 = (if (p0 &&& (8 : Int32)) ≤ (0 : Int32) then (0 : Int32) else (1 : Int32)) ∧ va_P D vwCl (wD h c u_9) H ∧ va_D A (wD h c u_9) ∧ va_S A s.heap H locs ∧ lv_has ls 6 [(0, .ref (h 20)), (1, .int p0), (2, .int p1), (3, .int p2), (4, .int p3), (5, .int p4)]) (fr := fun v9 ls => F0 m 70 ls [.int v9, .ref (h 20)]) (fun J_12 => ?_) (fun v9 H locs ls hG => ?_)
    · refine lv_if_le (tgt := 69) hx hb d_D_mode_62 (by decide) (fun c_13 => ?_) (fun c_13 => ?_)
      · refine lv_iconst (v := (0 : Int32)) hx hb d_D_mode_69 (by decide) ?_
        exact J_12 (0 : Int32) _ _ _ ⟨by simp only [if_pos c_13], hP, hD, hS, hl⟩
      refine lv_iconst (v := (1 : Int32)) hx hb d_D_mode_65 (by decide) ?_
      refine lv_goto (tgt := 70) hx hb d_D_mode_66 (by decide) ?_
      exact J_12 (1 : Int32) _ _ _ ⟨by simp only [if_neg c_13], hP, hD, hS, hl⟩
    obtain ⟨x_11, rfl⟩ : ∃ z, z = v9 := ⟨_, rfl⟩
    obtain ⟨ex_11, hP, hD, hS, hl⟩ := hG
    have zbx_11 : zB x_11 := by rw [ex_11]; repeat' first | with_reducible exact zB0 | with_reducible exact zB1 | with_reducible assumption | with_reducible refine zB_ite ?_ ?_
    refine va_put (D := D) (ci := 6) (v := .int x_11) (ty := .boolean) (C := "WindowMachineModel") (T := T_D) (N := 31) hx hb ht zi_D ty_D tyok_D nm_D hown hK hP hD hS 0 rfl rfl 21 (by decide) (ht _ zw_875) (fun _ h9 => h9) rfl (by decide +kernel) (zbx_11).n (zbx_11).f (Nat.le_of_ble_eq_true rfl) d_D_mode_70 (fun H locs hP hD hS => ?_)
    have hP : va_P D vwCl (wD h c (upd u_9.1 13 x_11, u_9.2.1, u_9.2.2.1, u_9.2.2.2.1, u_9.2.2.2.2.1, u_9.2.2.2.2.2)) H := hP
    have hD : va_D A (wD h c (upd u_9.1 13 x_11, u_9.2.1, u_9.2.2.1, u_9.2.2.2.1, u_9.2.2.2.2.1, u_9.2.2.2.2.2)) := hD
    refine lv_aload_n hx hb d_D_mode_73 rfl (lv_at hl 0 rfl) ?_
    refine lv_iload_n hx hb d_D_mode_74 rfl (lv_at hl 1 rfl) ?_
    refine lv_iconst (v := (4 : Int32)) hx hb d_D_mode_75 (by decide) ?_
    refine lv_iand hx hb d_D_mode_76 ?_
    refine zcut (X := Int32) (G := fun v9 H locs ls => v9 = (if (p0 &&& (4 : Int32)) ≤ (0 : Int32) then (0 : Int32) else (1 : Int32)) ∧ va_P D vwCl (wD h c (upd u_9.1 13 x_11, u_9.2.1, u_9.2.2.1, u_9.2.2.2.1, u_9.2.2.2.2.1, u_9.2.2.2.2.2)) H ∧ va_D A (wD h c (upd u_9.1 13 x_11, u_9.2.1, u_9.2.2.1, u_9.2.2.2.1, u_9.2.2.2.2.1, u_9.2.2.2.2.2)) ∧ va_S A s.heap H locs ∧ lv_has ls 6 [(0, .ref (h 20)), (1, .int p0), (2, .int p1), (3, .int p2), (4, .int p3), (5, .int p4)]) (fr := fun v9 ls => F0 m 85 ls [.int v9, .ref (h 20)]) (fun J_15 => ?_) (fun v9 H locs ls hG => ?_)
    · refine lv_if_le (tgt := 84) hx hb d_D_mode_77 (by decide) (fun c_16 => ?_) (fun c_16 => ?_)
      · refine lv_iconst (v := (0 : Int32)) hx hb d_D_mode_84 (by decide) ?_
        exact J_15 (0 : Int32) _ _ _ ⟨by simp only [if_pos c_16], hP, hD, hS, hl⟩
      refine lv_iconst (v := (1 : Int32)) hx hb d_D_mode_80 (by decide) ?_
      refine lv_goto (tgt := 85) hx hb d_D_mode_81 (by decide) ?_
      exact J_15 (1 : Int32) _ _ _ ⟨by simp only [if_neg c_16], hP, hD, hS, hl⟩
    obtain ⟨x_14, rfl⟩ : ∃ z, z = v9 := ⟨_, rfl⟩
    obtain ⟨ex_14, hP, hD, hS, hl⟩ := hG
    have zbx_14 : zB x_14 := by rw [ex_14]; repeat' first | with_reducible exact zB0 | with_reducible exact zB1 | with_reducible assumption | with_reducible refine zB_ite ?_ ?_
    refine va_put (D := D) (ci := 6) (v := .int x_14) (ty := .boolean) (C := "WindowMachineModel") (T := T_D) (N := 31) hx hb ht zi_D ty_D tyok_D nm_D hown hK hP hD hS 0 rfl rfl 22 (by decide) (ht _ zw_876) (fun _ h9 => h9) rfl (by decide +kernel) (zbx_14).n (zbx_14).f (Nat.le_of_ble_eq_true rfl) d_D_mode_85 (fun H locs hP hD hS => ?_)
    have hP : va_P D vwCl (wD h c (upd (upd u_9.1 13 x_11) 14 x_14, u_9.2.1, u_9.2.2.1, u_9.2.2.2.1, u_9.2.2.2.2.1, u_9.2.2.2.2.2)) H := hP
    have hD : va_D A (wD h c (upd (upd u_9.1 13 x_11) 14 x_14, u_9.2.1, u_9.2.2.1, u_9.2.2.2.1, u_9.2.2.2.2.1, u_9.2.2.2.2.2)) := hD
    refine lv_aload_n hx hb d_D_mode_88 rfl (lv_at hl 0 rfl) ?_
    refine lv_iload_n hx hb d_D_mode_89 rfl (lv_at hl 1 rfl) ?_
    refine lv_iconst (v := (2 : Int32)) hx hb d_D_mode_90 (by decide) ?_
    refine lv_iand hx hb d_D_mode_91 ?_
    refine zcut (X := Int32) (G := fun v9 H locs ls => v9 = (if (p0 &&& (2 : Int32)) ≤ (0 : Int32) then (0 : Int32) else (1 : Int32)) ∧ va_P D vwCl (wD h c (upd (upd u_9.1 13 x_11) 14 x_14, u_9.2.1, u_9.2.2.1, u_9.2.2.2.1, u_9.2.2.2.2.1, u_9.2.2.2.2.2)) H ∧ va_D A (wD h c (upd (upd u_9.1 13 x_11) 14 x_14, u_9.2.1, u_9.2.2.1, u_9.2.2.2.1, u_9.2.2.2.2.1, u_9.2.2.2.2.2)) ∧ va_S A s.heap H locs ∧ lv_has ls 6 [(0, .ref (h 20)), (1, .int p0), (2, .int p1), (3, .int p2), (4, .int p3), (5, .int p4)]) (fr := fun v9 ls => F0 m 100 ls [.int v9, .ref (h 20)]) (fun J_18 => ?_) (fun v9 H locs ls hG => ?_)
    · refine lv_if_le (tgt := 99) hx hb d_D_mode_92 (by decide) (fun c_19 => ?_) (fun c_19 => ?_)
      · refine lv_iconst (v := (0 : Int32)) hx hb d_D_mode_99 (by decide) ?_
        exact J_18 (0 : Int32) _ _ _ ⟨by simp only [if_pos c_19], hP, hD, hS, hl⟩
      refine lv_iconst (v := (1 : Int32)) hx hb d_D_mode_95 (by decide) ?_
      refine lv_goto (tgt := 100) hx hb d_D_mode_96 (by decide) ?_
      exact J_18 (1 : Int32) _ _ _ ⟨by simp only [if_neg c_19], hP, hD, hS, hl⟩
    obtain ⟨x_17, rfl⟩ : ∃ z, z = v9 := ⟨_, rfl⟩
    obtain ⟨ex_17, hP, hD, hS, hl⟩ := hG
    have zbx_17 : zB x_17 := by rw [ex_17]; repeat' first | with_reducible exact zB0 | with_reducible exact zB1 | with_reducible assumption | with_reducible refine zB_ite ?_ ?_
    refine va_put (D := D) (ci := 6) (v := .int x_17) (ty := .boolean) (C := "WindowMachineModel") (T := T_D) (N := 31) hx hb ht zi_D ty_D tyok_D nm_D hown hK hP hD hS 0 rfl rfl 23 (by decide) (ht _ zw_877) (fun _ h9 => h9) rfl (by decide +kernel) (zbx_17).n (zbx_17).f (Nat.le_of_ble_eq_true rfl) d_D_mode_100 (fun H locs hP hD hS => ?_)
    have hP : va_P D vwCl (wD h c (upd (upd (upd u_9.1 13 x_11) 14 x_14) 15 x_17, u_9.2.1, u_9.2.2.1, u_9.2.2.2.1, u_9.2.2.2.2.1, u_9.2.2.2.2.2)) H := hP
    have hD : va_D A (wD h c (upd (upd (upd u_9.1 13 x_11) 14 x_14) 15 x_17, u_9.2.1, u_9.2.2.1, u_9.2.2.2.1, u_9.2.2.2.2.1, u_9.2.2.2.2.2)) := hD
    refine lv_aload_n hx hb d_D_mode_103 rfl (lv_at hl 0 rfl) ?_
    refine lv_iload_n hx hb d_D_mode_104 rfl (lv_at hl 1 rfl) ?_
    refine lv_iconst (v := (1 : Int32)) hx hb d_D_mode_105 (by decide) ?_
    refine lv_iand hx hb d_D_mode_106 ?_
    refine zcut (X := Int32) (G := fun v9 H locs ls => v9 = (if (p0 &&& (1 : Int32)) ≤ (0 : Int32) then (0 : Int32) else (1 : Int32)) ∧ va_P D vwCl (wD h c (upd (upd (upd u_9.1 13 x_11) 14 x_14) 15 x_17, u_9.2.1, u_9.2.2.1, u_9.2.2.2.1, u_9.2.2.2.2.1, u_9.2.2.2.2.2)) H ∧ va_D A (wD h c (upd (upd (upd u_9.1 13 x_11) 14 x_14) 15 x_17, u_9.2.1, u_9.2.2.1, u_9.2.2.2.1, u_9.2.2.2.2.1, u_9.2.2.2.2.2)) ∧ va_S A s.heap H locs ∧ lv_has ls 6 [(0, .ref (h 20)), (1, .int p0), (2, .int p1), (3, .int p2), (4, .int p3), (5, .int p4)]) (fr := fun v9 ls => F0 m 115 ls [.int v9, .ref (h 20)]) (fun J_21 => ?_) (fun v9 H locs ls hG => ?_)
    · refine lv_if_le (tgt := 114) hx hb d_D_mode_107 (by decide) (fun c_22 => ?_) (fun c_22 => ?_)
      · refine lv_iconst (v := (0 : Int32)) hx hb d_D_mode_114 (by decide) ?_
        exact J_21 (0 : Int32) _ _ _ ⟨by simp only [if_pos c_22], hP, hD, hS, hl⟩
      refine lv_iconst (v := (1 : Int32)) hx hb d_D_mode_110 (by decide) ?_
      refine lv_goto (tgt := 115) hx hb d_D_mode_111 (by decide) ?_
      exact J_21 (1 : Int32) _ _ _ ⟨by simp only [if_neg c_22], hP, hD, hS, hl⟩
    obtain ⟨x_20, rfl⟩ : ∃ z, z = v9 := ⟨_, rfl⟩
    obtain ⟨ex_20, hP, hD, hS, hl⟩ := hG
    have zbx_20 : zB x_20 := by rw [ex_20]; repeat' first | with_reducible exact zB0 | with_reducible exact zB1 | with_reducible assumption | with_reducible refine zB_ite ?_ ?_
    refine va_put (D := D) (ci := 6) (v := .int x_20) (ty := .boolean) (C := "WindowMachineModel") (T := T_D) (N := 31) hx hb ht zi_D ty_D tyok_D nm_D hown hK hP hD hS 0 rfl rfl 24 (by decide) (ht _ zw_878) (fun _ h9 => h9) rfl (by decide +kernel) (zbx_20).n (zbx_20).f (Nat.le_of_ble_eq_true rfl) d_D_mode_115 (fun H locs hP hD hS => ?_)
    have hP : va_P D vwCl (wD h c (upd (upd (upd (upd u_9.1 13 x_11) 14 x_14) 15 x_17) 16 x_20, u_9.2.1, u_9.2.2.1, u_9.2.2.2.1, u_9.2.2.2.2.1, u_9.2.2.2.2.2)) H := hP
    have hD : va_D A (wD h c (upd (upd (upd (upd u_9.1 13 x_11) 14 x_14) 15 x_17) 16 x_20, u_9.2.1, u_9.2.2.1, u_9.2.2.2.1, u_9.2.2.2.2.1, u_9.2.2.2.2.2)) := hD
    refine lv_aload_n hx hb d_D_mode_118 rfl (lv_at hl 0 rfl) ?_
    refine lv_iload_n hx hb d_D_mode_119 rfl (lv_at hl 2 rfl) ?_
    refine va_put (D := D) (ci := 6) (v := .int p1) (ty := .int) (C := "WindowMachineModel") (T := T_D) (N := 31) hx hb ht zi_D ty_D tyok_D nm_D hown hK hP hD hS 0 rfl rfl 15 (by decide) (ht _ zw_869) (fun _ h9 => h9) rfl (by decide +kernel) rfl rfl (Nat.le_of_ble_eq_true rfl) d_D_mode_120 (fun H locs hP hD hS => ?_)
    have hP : va_P D vwCl (wD h c (upd (upd (upd (upd (upd u_9.1 13 x_11) 14 x_14) 15 x_17) 16 x_20) 7 p1, u_9.2.1, u_9.2.2.1, u_9.2.2.2.1, u_9.2.2.2.2.1, u_9.2.2.2.2.2)) H := hP
    have hD : va_D A (wD h c (upd (upd (upd (upd (upd u_9.1 13 x_11) 14 x_14) 15 x_17) 16 x_20) 7 p1, u_9.2.1, u_9.2.2.1, u_9.2.2.2.1, u_9.2.2.2.2.1, u_9.2.2.2.2.2)) := hD
    refine lv_aload_n hx hb d_D_mode_123 rfl (lv_at hl 0 rfl) ?_
    refine lv_iload_n hx hb d_D_mode_124 rfl (lv_at hl 3 rfl) ?_
    refine va_put (D := D) (ci := 6) (v := .int p2) (ty := .int) (C := "WindowMachineModel") (T := T_D) (N := 31) hx hb ht zi_D ty_D tyok_D nm_D hown hK hP hD hS 0 rfl rfl 16 (by decide) (ht _ zw_870) (fun _ h9 => h9) rfl (by decide +kernel) rfl rfl (Nat.le_of_ble_eq_true rfl) d_D_mode_125 (fun H locs hP hD hS => ?_)
    have hP : va_P D vwCl (wD h c (upd (upd (upd (upd (upd (upd u_9.1 13 x_11) 14 x_14) 15 x_17) 16 x_20) 7 p1) 8 p2, u_9.2.1, u_9.2.2.1, u_9.2.2.2.1, u_9.2.2.2.2.1, u_9.2.2.2.2.2)) H := hP
    have hD : va_D A (wD h c (upd (upd (upd (upd (upd (upd u_9.1 13 x_11) 14 x_14) 15 x_17) 16 x_20) 7 p1) 8 p2, u_9.2.1, u_9.2.2.1, u_9.2.2.2.1, u_9.2.2.2.2.1, u_9.2.2.2.2.2)) := hD
    refine lv_aload_n hx hb d_D_mode_128 rfl (lv_at hl 0 rfl) ?_
    refine lv_iload hx hb d_D_mode_129 (lv_at hl 4 rfl) ?_
    refine lv_sipush (v := (-4096 : Int32)) hx hb d_D_mode_131 (by decide) ?_
    refine lv_iand hx hb d_D_mode_134 ?_
    refine va_put (D := D) (ci := 6) (v := .int (p3 &&& (-4096 : Int32))) (ty := .int) (C := "WindowMachineModel") (T := T_D) (N := 31) hx hb ht zi_D ty_D tyok_D nm_D hown hK hP hD hS 0 rfl rfl 17 (by decide) (ht _ zw_871) (fun _ h9 => h9) rfl (by decide +kernel) rfl rfl (Nat.le_of_ble_eq_true rfl) d_D_mode_135 (fun H locs hP hD hS => ?_)
    have hP : va_P D vwCl (wD h c (upd (upd (upd (upd (upd (upd (upd u_9.1 13 x_11) 14 x_14) 15 x_17) 16 x_20) 7 p1) 8 p2) 9 (p3 &&& (-4096 : Int32)), u_9.2.1, u_9.2.2.1, u_9.2.2.2.1, u_9.2.2.2.2.1, u_9.2.2.2.2.2)) H := hP
    have hD : va_D A (wD h c (upd (upd (upd (upd (upd (upd (upd u_9.1 13 x_11) 14 x_14) 15 x_17) 16 x_20) 7 p1) 8 p2) 9 (p3 &&& (-4096 : Int32)), u_9.2.1, u_9.2.2.1, u_9.2.2.2.1, u_9.2.2.2.2.1, u_9.2.2.2.2.2)) := hD
    refine lv_aload_n hx hb d_D_mode_138 rfl (lv_at hl 0 rfl) ?_
    refine lv_iload hx hb d_D_mode_139 (lv_at hl 5 rfl) ?_
    refine lv_iconst (v := (4 : Int32)) hx hb d_D_mode_141 (by decide) ?_
    refine lv_iand hx hb d_D_mode_142 ?_
    refine zcut (X := Int32) (G := fun v9 H locs ls => v9 = (if (p4 &&& (4 : Int32)) ≤ (0 : Int32) then (0 : Int32) else (1 : Int32)) ∧ va_P D vwCl (wD h c (upd (upd (upd (upd (upd (upd (upd u_9.1 13 x_11) 14 x_14) 15 x_17) 16 x_20) 7 p1) 8 p2) 9 (p3 &&& (-4096 : Int32)), u_9.2.1, u_9.2.2.1, u_9.2.2.2.1, u_9.2.2.2.2.1, u_9.2.2.2.2.2)) H ∧ va_D A (wD h c (upd (upd (upd (upd (upd (upd (upd u_9.1 13 x_11) 14 x_14) 15 x_17) 16 x_20) 7 p1) 8 p2) 9 (p3 &&& (-4096 : Int32)), u_9.2.1, u_9.2.2.1, u_9.2.2.2.1, u_9.2.2.2.2.1, u_9.2.2.2.2.2)) ∧ va_S A s.heap H locs ∧ lv_has ls 6 [(0, .ref (h 20)), (1, .int p0), (2, .int p1), (3, .int p2), (4, .int p3), (5, .int p4)]) (fr := fun v9 ls => F0 m 151 ls [.int v9, .ref (h 20)]) (fun J_24 => ?_) (fun v9 H locs ls hG => ?_)
    · refine lv_if_le (tgt := 150) hx hb d_D_mode_143 (by decide) (fun c_25 => ?_) (fun c_25 => ?_)
      · refine lv_iconst (v := (0 : Int32)) hx hb d_D_mode_150 (by decide) ?_
        exact J_24 (0 : Int32) _ _ _ ⟨by simp only [if_pos c_25], hP, hD, hS, hl⟩
      refine lv_iconst (v := (1 : Int32)) hx hb d_D_mode_146 (by decide) ?_
      refine lv_goto (tgt := 151) hx hb d_D_mode_147 (by decide) ?_
      exact J_24 (1 : Int32) _ _ _ ⟨by simp only [if_neg c_25], hP, hD, hS, hl⟩
    obtain ⟨x_23, rfl⟩ : ∃ z, z = v9 := ⟨_, rfl⟩
    obtain ⟨ex_23, hP, hD, hS, hl⟩ := hG
    have zbx_23 : zB x_23 := by rw [ex_23]; repeat' first | with_reducible exact zB0 | with_reducible exact zB1 | with_reducible assumption | with_reducible refine zB_ite ?_ ?_
    refine va_put (D := D) (ci := 6) (v := .int x_23) (ty := .boolean) (C := "WindowMachineModel") (T := T_D) (N := 31) hx hb ht zi_D ty_D tyok_D nm_D hown hK hP hD hS 0 rfl rfl 25 (by decide) (ht _ zw_879) (fun _ h9 => h9) rfl (by decide +kernel) (zbx_23).n (zbx_23).f (Nat.le_of_ble_eq_true rfl) d_D_mode_151 (fun H locs hP hD hS => ?_)
    have hP : va_P D vwCl (wD h c (upd (upd (upd (upd (upd (upd (upd (upd u_9.1 13 x_11) 14 x_14) 15 x_17) 16 x_20) 7 p1) 8 p2) 9 (p3 &&& (-4096 : Int32))) 17 x_23, u_9.2.1, u_9.2.2.1, u_9.2.2.2.1, u_9.2.2.2.2.1, u_9.2.2.2.2.2)) H := hP
    have hD : va_D A (wD h c (upd (upd (upd (upd (upd (upd (upd (upd u_9.1 13 x_11) 14 x_14) 15 x_17) 16 x_20) 7 p1) 8 p2) 9 (p3 &&& (-4096 : Int32))) 17 x_23, u_9.2.1, u_9.2.2.1, u_9.2.2.2.1, u_9.2.2.2.2.1, u_9.2.2.2.2.2)) := hD
    refine lv_aload_n hx hb d_D_mode_154 rfl (lv_at hl 0 rfl) ?_
    refine lv_iload hx hb d_D_mode_155 (lv_at hl 5 rfl) ?_
    refine lv_iconst (v := (2 : Int32)) hx hb d_D_mode_157 (by decide) ?_
    refine lv_iand hx hb d_D_mode_158 ?_
    refine zcut (X := Int32) (G := fun v9 H locs ls => v9 = (if (p4 &&& (2 : Int32)) ≤ (0 : Int32) then (0 : Int32) else (1 : Int32)) ∧ va_P D vwCl (wD h c (upd (upd (upd (upd (upd (upd (upd (upd u_9.1 13 x_11) 14 x_14) 15 x_17) 16 x_20) 7 p1) 8 p2) 9 (p3 &&& (-4096 : Int32))) 17 x_23, u_9.2.1, u_9.2.2.1, u_9.2.2.2.1, u_9.2.2.2.2.1, u_9.2.2.2.2.2)) H ∧ va_D A (wD h c (upd (upd (upd (upd (upd (upd (upd (upd u_9.1 13 x_11) 14 x_14) 15 x_17) 16 x_20) 7 p1) 8 p2) 9 (p3 &&& (-4096 : Int32))) 17 x_23, u_9.2.1, u_9.2.2.1, u_9.2.2.2.1, u_9.2.2.2.2.1, u_9.2.2.2.2.2)) ∧ va_S A s.heap H locs ∧ lv_has ls 6 [(0, .ref (h 20)), (1, .int p0), (2, .int p1), (3, .int p2), (4, .int p3), (5, .int p4)]) (fr := fun v9 ls => F0 m 167 ls [.int v9, .ref (h 20)]) (fun J_27 => ?_) (fun v9 H locs ls hG => ?_)
    · refine lv_if_le (tgt := 166) hx hb d_D_mode_159 (by decide) (fun c_28 => ?_) (fun c_28 => ?_)
      · refine lv_iconst (v := (0 : Int32)) hx hb d_D_mode_166 (by decide) ?_
        exact J_27 (0 : Int32) _ _ _ ⟨by simp only [if_pos c_28], hP, hD, hS, hl⟩
      refine lv_iconst (v := (1 : Int32)) hx hb d_D_mode_162 (by decide) ?_
      refine lv_goto (tgt := 167) hx hb d_D_mode_163 (by decide) ?_
      exact J_27 (1 : Int32) _ _ _ ⟨by simp only [if_neg c_28], hP, hD, hS, hl⟩
    obtain ⟨x_26, rfl⟩ : ∃ z, z = v9 := ⟨_, rfl⟩
    obtain ⟨ex_26, hP, hD, hS, hl⟩ := hG
    have zbx_26 : zB x_26 := by rw [ex_26]; repeat' first | with_reducible exact zB0 | with_reducible exact zB1 | with_reducible assumption | with_reducible refine zB_ite ?_ ?_
    refine va_put (D := D) (ci := 6) (v := .int x_26) (ty := .boolean) (C := "WindowMachineModel") (T := T_D) (N := 31) hx hb ht zi_D ty_D tyok_D nm_D hown hK hP hD hS 0 rfl rfl 26 (by decide) (ht _ zw_880) (fun _ h9 => h9) rfl (by decide +kernel) (zbx_26).n (zbx_26).f (Nat.le_of_ble_eq_true rfl) d_D_mode_167 (fun H locs hP hD hS => ?_)
    have hP : va_P D vwCl (wD h c (upd (upd (upd (upd (upd (upd (upd (upd (upd u_9.1 13 x_11) 14 x_14) 15 x_17) 16 x_20) 7 p1) 8 p2) 9 (p3 &&& (-4096 : Int32))) 17 x_23) 18 x_26, u_9.2.1, u_9.2.2.1, u_9.2.2.2.1, u_9.2.2.2.2.1, u_9.2.2.2.2.2)) H := hP
    have hD : va_D A (wD h c (upd (upd (upd (upd (upd (upd (upd (upd (upd u_9.1 13 x_11) 14 x_14) 15 x_17) 16 x_20) 7 p1) 8 p2) 9 (p3 &&& (-4096 : Int32))) 17 x_23) 18 x_26, u_9.2.1, u_9.2.2.1, u_9.2.2.2.1, u_9.2.2.2.2.1, u_9.2.2.2.2.2)) := hD
    refine lv_aload_n hx hb d_D_mode_170 rfl (lv_at hl 0 rfl) ?_
    refine lv_iload hx hb d_D_mode_171 (lv_at hl 5 rfl) ?_
    refine lv_iconst (v := (1 : Int32)) hx hb d_D_mode_173 (by decide) ?_
    refine lv_iand hx hb d_D_mode_174 ?_
    refine zcut (X := Int32) (G := fun v9 H locs ls => v9 = (if (p4 &&& (1 : Int32)) ≤ (0 : Int32) then (0 : Int32) else (1 : Int32)) ∧ va_P D vwCl (wD h c (upd (upd (upd (upd (upd (upd (upd (upd (upd u_9.1 13 x_11) 14 x_14) 15 x_17) 16 x_20) 7 p1) 8 p2) 9 (p3 &&& (-4096 : Int32))) 17 x_23) 18 x_26, u_9.2.1, u_9.2.2.1, u_9.2.2.2.1, u_9.2.2.2.2.1, u_9.2.2.2.2.2)) H ∧ va_D A (wD h c (upd (upd (upd (upd (upd (upd (upd (upd (upd u_9.1 13 x_11) 14 x_14) 15 x_17) 16 x_20) 7 p1) 8 p2) 9 (p3 &&& (-4096 : Int32))) 17 x_23) 18 x_26, u_9.2.1, u_9.2.2.1, u_9.2.2.2.1, u_9.2.2.2.2.1, u_9.2.2.2.2.2)) ∧ va_S A s.heap H locs ∧ lv_has ls 6 [(0, .ref (h 20)), (1, .int p0), (2, .int p1), (3, .int p2), (4, .int p3), (5, .int p4)]) (fr := fun v9 ls => F0 m 183 ls [.int v9, .ref (h 20)]) (fun J_30 => ?_) (fun v9 H locs ls hG => ?_)
    · refine lv_if_le (tgt := 182) hx hb d_D_mode_175 (by decide) (fun c_31 => ?_) (fun c_31 => ?_)
      · refine lv_iconst (v := (0 : Int32)) hx hb d_D_mode_182 (by decide) ?_
        exact J_30 (0 : Int32) _ _ _ ⟨by simp only [if_pos c_31], hP, hD, hS, hl⟩
      refine lv_iconst (v := (1 : Int32)) hx hb d_D_mode_178 (by decide) ?_
      refine lv_goto (tgt := 183) hx hb d_D_mode_179 (by decide) ?_
      exact J_30 (1 : Int32) _ _ _ ⟨by simp only [if_neg c_31], hP, hD, hS, hl⟩
    obtain ⟨x_29, rfl⟩ : ∃ z, z = v9 := ⟨_, rfl⟩
    obtain ⟨ex_29, hP, hD, hS, hl⟩ := hG
    have zbx_29 : zB x_29 := by rw [ex_29]; repeat' first | with_reducible exact zB0 | with_reducible exact zB1 | with_reducible assumption | with_reducible refine zB_ite ?_ ?_
    refine va_put (D := D) (ci := 6) (v := .int x_29) (ty := .boolean) (C := "WindowMachineModel") (T := T_D) (N := 31) hx hb ht zi_D ty_D tyok_D nm_D hown hK hP hD hS 0 rfl rfl 27 (by decide) (ht _ zw_881) (fun _ h9 => h9) rfl (by decide +kernel) (zbx_29).n (zbx_29).f (Nat.le_of_ble_eq_true rfl) d_D_mode_183 (fun H locs hP hD hS => ?_)
    have hP : va_P D vwCl (wD h c (upd (upd (upd (upd (upd (upd (upd (upd (upd (upd u_9.1 13 x_11) 14 x_14) 15 x_17) 16 x_20) 7 p1) 8 p2) 9 (p3 &&& (-4096 : Int32))) 17 x_23) 18 x_26) 19 x_29, u_9.2.1, u_9.2.2.1, u_9.2.2.2.1, u_9.2.2.2.2.1, u_9.2.2.2.2.2)) H := hP
    have hD : va_D A (wD h c (upd (upd (upd (upd (upd (upd (upd (upd (upd (upd u_9.1 13 x_11) 14 x_14) 15 x_17) 16 x_20) 7 p1) 8 p2) 9 (p3 &&& (-4096 : Int32))) 17 x_23) 18 x_26) 19 x_29, u_9.2.1, u_9.2.2.1, u_9.2.2.2.1, u_9.2.2.2.2.1, u_9.2.2.2.2.2)) := hD
    refine lv_aload_n hx hb d_D_mode_186 rfl (lv_at hl 0 rfl) ?_
    refine va_get (D := D) (ci := 6) (v := .int (u_9.1 6)) (C := "WindowMachineModel") (T := T_D) (N := 31) hx hb ht zi_D hown hK hP 0 rfl rfl 14 (by decide) (ht _ zw_868) (fun _ h9 => h9) rfl d_D_mode_187 ?_
    exact zl_i (u := (upd (upd (upd (upd (upd (upd (upd (upd (upd (upd u_9.1 13 x_11) 14 x_14) 15 x_17) 16 x_20) 7 p1) 8 p2) 9 (p3 &&& (-4096 : Int32))) 17 x_23) 18 x_26) 19 x_29, u_9.2.1, u_9.2.2.1, u_9.2.2.2.1, u_9.2.2.2.2.1, u_9.2.2.2.2.2)) hx hb hr hlocks hS hP hD (⟨by simp only [m_mode, ← er_1, ← ex_2, ← er_9, ← eu_9, ← ex_11, ← ex_14, ← ex_17, ← ex_20, ← ex_23, ← ex_26, ← ex_29, if_pos c_10], by simp only [m_mode, ← er_1, ← ex_2, ← er_9, ← eu_9, ← ex_11, ← ex_14, ← ex_17, ← ex_20, ← ex_23, ← ex_26, ← ex_29, if_pos c_10]⟩) d_D_mode_190
  refine lv_iconst (v := (0 : Int32)) hx hb d_D_mode_55 (by decide) ?_
  exact zl_i (u := u_9) hx hb hr hlocks hS hP hD (⟨by simp only [m_mode, ← er_1, ← ex_2, ← er_9, ← eu_9, if_neg c_10], by simp only [m_mode, ← er_1, ← ex_2, ← er_9, ← eu_9, if_neg c_10]⟩) d_D_mode_56
theorem d_D_start_0 : decode c_D_start 0 = .ok (.aload_n 0, 1) := by decide +kernel
theorem d_D_start_1 : decode c_D_start 1 = .ok (.iconst 0, 1) := by decide +kernel
theorem d_D_start_2 : decode c_D_start 2 = .ok (.putfield 228, 3) := by decide +kernel
theorem d_D_start_5 : decode c_D_start 5 = .ok (.aload_n 0, 1) := by decide +kernel
theorem d_D_start_6 : decode c_D_start 6 = .ok (.iload_n 1, 1) := by decide +kernel
theorem d_D_start_7 : decode c_D_start 7 = .ok (.invokestatic 286, 3) := by decide +kernel
theorem d_D_start_10 : decode c_D_start 10 = .ok (.ifCond .ne 7, 3) := by decide +kernel
theorem d_D_start_13 : decode c_D_start 13 = .ok (.iconst 1, 1) := by decide +kernel
theorem d_D_start_14 : decode c_D_start 14 = .ok (.goto 4, 3) := by decide +kernel
theorem d_D_start_17 : decode c_D_start 17 = .ok (.iconst 0, 1) := by decide +kernel
theorem d_D_start_18 : decode c_D_start 18 = .ok (.iconst 1, 1) := by decide +kernel
theorem d_D_start_19 : decode c_D_start 19 = .ok (.invokevirtual 290, 3) := by decide +kernel
theorem d_D_start_22 : decode c_D_start 22 = .ok (.ifCond .eq 5, 3) := by decide +kernel
theorem d_D_start_25 : decode c_D_start 25 = .ok (.iconst 0, 1) := by decide +kernel
theorem d_D_start_26 : decode c_D_start 26 = .ok (.ireturn, 1) := by decide +kernel
theorem d_D_start_27 : decode c_D_start 27 = .ok (.aload_n 0, 1) := by decide +kernel
theorem d_D_start_28 : decode c_D_start 28 = .ok (.getfield 221, 3) := by decide +kernel
theorem d_D_start_31 : decode c_D_start 31 = .ok (.istore_n 2, 1) := by decide +kernel
theorem d_D_start_32 : decode c_D_start 32 = .ok (.aload_n 0, 1) := by decide +kernel
theorem d_D_start_33 : decode c_D_start 33 = .ok (.iload_n 1, 1) := by decide +kernel
theorem d_D_start_34 : decode c_D_start 34 = .ok (.invokevirtual 224, 3) := by decide +kernel
theorem d_D_start_37 : decode c_D_start 37 = .ok (.iload_n 2, 1) := by decide +kernel
theorem d_D_start_38 : decode c_D_start 38 = .ok (.ireturn, 1) := by decide +kernel
theorem kd_D_start : (y_D_start).cls = "WindowMachineModel" ∧ (y_D_start).cls ≠ "java/lang/invoke/MethodHandle" ∧ (y_D_start).cls ≠ "java/lang/invoke/VarHandle" ∧ (parseMethodDescriptor (y_D_start).desc).map (fun d => d.parameters.length) = some 1 := by decide +kernel
def m_start (st : SD) (p0 : Int32) : Int32 × SD := (let r_1 := m_isWord p0; (let x_2 := (if r_1 = (0 : Int32) then (1 : Int32) else (0 : Int32)); (let r_5 := (m_fails (upd st.1 0 (0 : Int32), st.2.1, st.2.2.1, st.2.2.2.1, st.2.2.2.2.1, st.2.2.2.2.2) x_2 (1 : Int32)).1; (let u_5 := (m_fails (upd st.1 0 (0 : Int32), st.2.1, st.2.2.1, st.2.2.2.1, st.2.2.2.2.1, st.2.2.2.2.2) x_2 (1 : Int32)).2; (if r_5 = (0 : Int32) then (let u_7 := m_reset u_5 p0; (u_5.1 10, u_7)) else ((0 : Int32), u_5))))))
set_option maxHeartbeats 4000000 in
set_option maxRecDepth 100000 in
theorem mt_D_start (l : Launch) (D : va_G) (h : Nat → Nat) (c : Nat → ClassId) (sz : Nat) (st : SD) (p0 : Int32) : Met l y_D_start w_D_start ({ frames := 2, cells := 0, slots := 0, locals := 45 }) (va_Pc [.ref (h 20), .int p0] (zw_pre D vwCl [(c 21, .long), (c 22, .int), (c 23, .int), (c 24, .int), (c 25, .int), (c 26, .int), (c 27, .int), (c 28, .int)] sz (wD h c st) (fun _ => True))) (va_Qi (fun r (u : SD) => r = (m_start st p0).1 ∧ u = (m_start st p0).2) (fun u t => zw_at D vwCl (va_A (wD h c st) sz) ((fun (u : SD) => wD h c u) u) t) (va_A (wD h c st) sz)) 0 0 (va_A (wD h c st) sz) := by
  refine zm (Qf := fun A => va_Qi (fun r (u : SD) => r = (m_start st p0).1 ∧ u = (m_start st p0).2) (fun u t => zw_at D vwCl A ((fun (u : SD) => wD h c u) u) t) A) (Zf := fun _ _ => True) (cc := c_D_start) (nL := 3) (ret := (some .int)) (by decide) rfl (Nat.le_of_ble_eq_true rfl) ?_
  intro p e s m below meth c9 A H locs ls hx hb hml hown hts hr hlocks hA hK hP hD hS hZ hl
  have hl : lv_has ls 3 [(0, .ref (h 20)), (1, .int p0)] := hl
  have ht : ∀ w9 ∈ zT, w9.before _ s = true := fun w9 h9 => hts w9 (List.mem_cons_of_mem _ h9)
  refine lv_aload_n hx hb d_D_start_0 rfl (lv_at hl 0 rfl) ?_
  refine lv_iconst (v := (0 : Int32)) hx hb d_D_start_1 (by decide) ?_
  refine va_put (D := D) (ci := 6) (v := .int (0 : Int32)) (ty := .int) (C := "WindowMachineModel") (T := T_D) (N := 31) hx hb ht zi_D ty_D tyok_D nm_D hown hK hP hD hS 0 rfl rfl 3 (by decide) (ht _ zw_857) (fun _ h9 => h9) rfl (by decide +kernel) rfl rfl (Nat.le_of_ble_eq_true rfl) d_D_start_2 (fun H locs hP hD hS => ?_)
  have hP : va_P D vwCl (wD h c (upd st.1 0 (0 : Int32), st.2.1, st.2.2.1, st.2.2.2.1, st.2.2.2.2.1, st.2.2.2.2.2)) H := hP
  have hD : va_D A (wD h c (upd st.1 0 (0 : Int32), st.2.1, st.2.2.1, st.2.2.2.1, st.2.2.2.2.1, st.2.2.2.2.2)) := hD
  refine lv_aload_n hx hb d_D_start_5 rfl (lv_at hl 0 rfl) ?_
  refine lv_iload_n hx hb d_D_start_6 rfl (lv_at hl 1 rfl) ?_
  refine zc_i (w2 := fun _ => wD h c (upd st.1 0 (0 : Int32), st.2.1, st.2.2.1, st.2.2.2.1, st.2.2.2.2.1, st.2.2.2.2.2)) (va_runS (As := [.int p0]) (rest := [.ref (h 20)]) ⟨hx, hb, hml, hown, ht⟩ (mt_D_isWord l D H.size p0) (cwS 1 ht (zgS zw_957 zw_958 zw_7 zw_959) rfl rfl rfl kd_D_isWord ⟨Nat.le_of_ble_eq_true rfl, Nat.le_of_ble_eq_true rfl⟩) ⟨zw_blind zw_tt, zw_go (hP.sub (ws' := []) [] rfl) (hD.sub (ws' := []) [] (by decide) rfl) (hK.sub (tys' := []) [] rfl) (fun _ _ _ => trivial)⟩ rfl rfl hl.1 rfl (lv_room (Nat.le_of_ble_eq_true rfl)) d_D_start_7 ⟨Nat.le_of_ble_eq_true rfl, Nat.le_of_ble_eq_true rfl⟩) hP hD hS hA [] [0, 1, 2, 3, 4, 5, 6, 7, 8] [0, 1, 2, 3, 4, 5, 6, 7, 8] rfl rfl (by decide) (by decide) (by decide) (fun _ => rfl) (fun r_1 _ H locs hw hP hD hS => ?_)
  have er_1 := hw
  refine zcut (X := Int32) (G := fun v9 H locs ls => v9 = (if r_1 = (0 : Int32) then (1 : Int32) else (0 : Int32)) ∧ va_P D vwCl (wD h c (upd st.1 0 (0 : Int32), st.2.1, st.2.2.1, st.2.2.2.1, st.2.2.2.2.1, st.2.2.2.2.2)) H ∧ va_D A (wD h c (upd st.1 0 (0 : Int32), st.2.1, st.2.2.1, st.2.2.2.1, st.2.2.2.2.1, st.2.2.2.2.2)) ∧ va_S A s.heap H locs ∧ lv_has ls 3 [(0, .ref (h 20)), (1, .int p0)]) (fr := fun v9 ls => F0 m 18 ls [.int v9, .ref (h 20)]) (fun J_3 => ?_) (fun v9 H locs ls hG => ?_)
  · refine lv_if_ne (tgt := 17) hx hb d_D_start_10 (by decide) (fun c_4 => ?_) (fun c_4 => ?_)
    · refine lv_iconst (v := (0 : Int32)) hx hb d_D_start_17 (by decide) ?_
      exact J_3 (0 : Int32) _ _ _ ⟨by simp only [if_neg c_4], hP, hD, hS, hl⟩
    refine lv_iconst (v := (1 : Int32)) hx hb d_D_start_13 (by decide) ?_
    refine lv_goto (tgt := 18) hx hb d_D_start_14 (by decide) ?_
    exact J_3 (1 : Int32) _ _ _ ⟨by simp only [if_pos c_4], hP, hD, hS, hl⟩
  obtain ⟨x_2, rfl⟩ : ∃ z, z = v9 := ⟨_, rfl⟩
  obtain ⟨ex_2, hP, hD, hS, hl⟩ := hG
  have zbx_2 : zB x_2 := by rw [ex_2]; repeat' first | with_reducible exact zB0 | with_reducible exact zB1 | with_reducible assumption | with_reducible refine zB_ite ?_ ?_
  refine lv_iconst (v := (1 : Int32)) hx hb d_D_start_18 (by decide) ?_
  refine zc_i (w2 := fun u9 => wD h c u9) (va_runV (As := [.int x_2, .int (1 : Int32)]) (rest := []) ⟨hx, hb, hml, hown, ht⟩ (mt_D_fails l D h c H.size (upd st.1 0 (0 : Int32), st.2.1, st.2.2.1, st.2.2.2.1, st.2.2.2.2.1, st.2.2.2.2.2) x_2 (1 : Int32)) (cwV 2 ht (zgV zw_964 zw_966 zs_53 zw_7 zw_967) rfl rfl rfl kd_D_fails ⟨Nat.le_of_ble_eq_true rfl, Nat.le_of_ble_eq_true rfl⟩) ⟨zw_blind zw_tt, va_recv (hK.sub (tys' := [(c 21, .long), (c 22, .int), (c 23, .int), (c 24, .int), (c 25, .int), (c 26, .int), (c 27, .int), (c 28, .int)]) [0, 1, 2, 3, 4, 5, 6, 7] rfl) (hP.sub (ws' := wD h c (upd st.1 0 (0 : Int32), st.2.1, st.2.2.1, st.2.2.2.1, st.2.2.2.2.1, st.2.2.2.2.2)) [0, 1, 2, 3, 4, 5, 6, 7, 8] rfl) (ci := 6) (q0 := 0) rfl rfl, zw_go (hP.sub (ws' := wD h c (upd st.1 0 (0 : Int32), st.2.1, st.2.2.1, st.2.2.2.1, st.2.2.2.2.1, st.2.2.2.2.2)) [0, 1, 2, 3, 4, 5, 6, 7, 8] rfl) (hD.sub (ws' := wD h c (upd st.1 0 (0 : Int32), st.2.1, st.2.2.1, st.2.2.2.1, st.2.2.2.2.1, st.2.2.2.2.2)) [0, 1, 2, 3, 4, 5, 6, 7, 8] (by decide) rfl) (hK.sub (tys' := [(c 21, .long), (c 22, .int), (c 23, .int), (c 24, .int), (c 25, .int), (c 26, .int), (c 27, .int), (c 28, .int)]) [0, 1, 2, 3, 4, 5, 6, 7] rfl) (fun _ _ _ => trivial)⟩ rfl rfl hl.1 rfl (lv_room (Nat.le_of_ble_eq_true rfl)) d_D_start_19 ⟨Nat.le_of_ble_eq_true rfl, Nat.le_of_ble_eq_true rfl⟩) hP hD hS hA [0, 1, 2, 3, 4, 5, 6, 7, 8] [] [0, 1, 2, 3, 4, 5, 6, 7, 8] rfl rfl (by decide) (by decide) (by decide) (fun _ => rfl) (fun r_5 u_5 H locs hw hP hD hS => ?_)
  obtain ⟨er_5, eu_5⟩ := hw
  refine lv_if_eq (tgt := 27) hx hb d_D_start_22 (by decide) (fun c_6 => ?_) (fun c_6 => ?_)
  · refine lv_aload_n hx hb d_D_start_27 rfl (lv_at hl 0 rfl) ?_
    refine va_get (D := D) (ci := 6) (v := .int (u_5.1 10)) (C := "WindowMachineModel") (T := T_D) (N := 31) hx hb ht zi_D hown hK hP 0 rfl rfl 18 (by decide) (ht _ zw_872) (fun _ h9 => h9) rfl d_D_start_28 ?_
    refine lv_istore_n (lv' := [(2, .int (u_5.1 10)), (0, .ref (h 20)), (1, .int p0)]) hx hb d_D_start_31 rfl hl (by decide) rfl (fun ls hl => ?_)
    refine lv_aload_n hx hb d_D_start_32 rfl (lv_at hl 1 rfl) ?_
    refine lv_iload_n hx hb d_D_start_33 rfl (lv_at hl 2 rfl) ?_
    refine zc_v (w2 := fun u9 => wD h c u9) (va_runV (As := [.int p0]) (rest := []) ⟨hx, hb, hml, hown, ht⟩ (mt_D_reset l D h c H.size u_5 p0) (cwV 1 ht (zgV zw_850 zw_852 zs_52 zw_7 zw_853) rfl rfl rfl kd_D_reset ⟨Nat.le_of_ble_eq_true rfl, Nat.le_of_ble_eq_true rfl⟩) ⟨zw_blind zw_tt, va_recv (hK.sub (tys' := [(c 21, .long), (c 22, .int), (c 23, .int), (c 24, .int), (c 25, .int), (c 26, .int), (c 27, .int), (c 28, .int)]) [0, 1, 2, 3, 4, 5, 6, 7] rfl) (hP.sub (ws' := wD h c u_5) [0, 1, 2, 3, 4, 5, 6, 7, 8] rfl) (ci := 6) (q0 := 0) rfl rfl, zw_go (hP.sub (ws' := wD h c u_5) [0, 1, 2, 3, 4, 5, 6, 7, 8] rfl) (hD.sub (ws' := wD h c u_5) [0, 1, 2, 3, 4, 5, 6, 7, 8] (by decide) rfl) (hK.sub (tys' := [(c 21, .long), (c 22, .int), (c 23, .int), (c 24, .int), (c 25, .int), (c 26, .int), (c 27, .int), (c 28, .int)]) [0, 1, 2, 3, 4, 5, 6, 7] rfl) (fun _ _ _ => trivial)⟩ rfl rfl hl.1 rfl (lv_room (Nat.le_of_ble_eq_true rfl)) d_D_start_34 ⟨Nat.le_of_ble_eq_true rfl, Nat.le_of_ble_eq_true rfl⟩) hP hD hS hA [0, 1, 2, 3, 4, 5, 6, 7, 8] [] [0, 1, 2, 3, 4, 5, 6, 7, 8] rfl rfl (by decide) (by decide) (by decide) (fun _ => rfl) (fun u_7 H locs hw hP hD hS => ?_)
    have eu_7 := hw
    refine lv_iload_n hx hb d_D_start_37 rfl (lv_at hl 0 rfl) ?_
    exact zl_i (u := u_7) hx hb hr hlocks hS hP hD (⟨by simp only [m_start, ← er_1, ← ex_2, ← er_5, ← eu_5, ← eu_7, if_pos c_6], by simp only [m_start, ← er_1, ← ex_2, ← er_5, ← eu_5, ← eu_7, if_pos c_6]⟩) d_D_start_38
  refine lv_iconst (v := (0 : Int32)) hx hb d_D_start_25 (by decide) ?_
  exact zl_i (u := u_5) hx hb hr hlocks hS hP hD (⟨by simp only [m_start, ← er_1, ← ex_2, ← er_5, ← eu_5, if_neg c_6], by simp only [m_start, ← er_1, ← ex_2, ← er_5, ← eu_5, if_neg c_6]⟩) d_D_start_26
