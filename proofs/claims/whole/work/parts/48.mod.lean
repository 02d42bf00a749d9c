theorem d_D_divides_0 : decode c_D_divides 0 = .ok (.aload_n 0, 1) := by decide +kernel
theorem d_D_divides_1 : decode c_D_divides 1 = .ok (.iload_n 3, 1) := by decide +kernel
theorem d_D_divides_2 : decode c_D_divides 2 = .ok (.ifCond .ne 7, 3) := by decide +kernel
theorem d_D_divides_5 : decode c_D_divides 5 = .ok (.iconst 1, 1) := by decide +kernel
theorem d_D_divides_6 : decode c_D_divides 6 = .ok (.goto 4, 3) := by decide +kernel
theorem d_D_divides_9 : decode c_D_divides 9 = .ok (.iconst 0, 1) := by decide +kernel
theorem d_D_divides_10 : decode c_D_divides 10 = .ok (.bipush 42, 2) := by decide +kernel
theorem d_D_divides_12 : decode c_D_divides 12 = .ok (.invokevirtual 334, 3) := by decide +kernel
theorem d_D_divides_15 : decode c_D_divides 15 = .ok (.aload_n 0, 1) := by decide +kernel
theorem d_D_divides_16 : decode c_D_divides 16 = .ok (.getfield 312, 3) := by decide +kernel
theorem d_D_divides_19 : decode c_D_divides 19 = .ok (.ifCond .lt 4, 3) := by decide +kernel
theorem d_D_divides_22 : decode c_D_divides 22 = .ok (.return_, 1) := by decide +kernel
theorem d_D_divides_23 : decode c_D_divides 23 = .ok (.aload_n 0, 1) := by decide +kernel
theorem d_D_divides_24 : decode c_D_divides 24 = .ok (.getfield 240, 3) := by decide +kernel
theorem d_D_divides_27 : decode c_D_divides 27 = .ok (.i2l, 1) := by decide +kernel
theorem d_D_divides_28 : decode c_D_divides 28 = .ok (.bipush 32, 2) := by decide +kernel
theorem d_D_divides_30 : decode c_D_divides 30 = .ok (.lshl, 1) := by decide +kernel
theorem d_D_divides_31 : decode c_D_divides 31 = .ok (.iload_n 2, 1) := by decide +kernel
theorem d_D_divides_32 : decode c_D_divides 32 = .ok (.invokestatic 326, 3) := by decide +kernel
theorem d_D_divides_35 : decode c_D_divides 35 = .ok (.lor, 1) := by decide +kernel
theorem d_D_divides_36 : decode c_D_divides 36 = .ok (.lstore 6, 2) := by decide +kernel
theorem d_D_divides_38 : decode c_D_divides 38 = .ok (.iload 4, 2) := by decide +kernel
theorem d_D_divides_40 : decode c_D_divides 40 = .ok (.ifCond .eq 88, 3) := by decide +kernel
theorem d_D_divides_43 : decode c_D_divides 43 = .ok (.lload 6, 2) := by decide +kernel
theorem d_D_divides_45 : decode c_D_divides 45 = .ok (.iload_n 3, 1) := by decide +kernel
theorem d_D_divides_46 : decode c_D_divides 46 = .ok (.i2l, 1) := by decide +kernel
theorem d_D_divides_47 : decode c_D_divides 47 = .ok (.ldiv, 1) := by decide +kernel
theorem d_D_divides_48 : decode c_D_divides 48 = .ok (.lstore 8, 2) := by decide +kernel
theorem d_D_divides_50 : decode c_D_divides 50 = .ok (.lload 6, 2) := by decide +kernel
theorem d_D_divides_52 : decode c_D_divides 52 = .ok (.ldc2_w 337, 3) := by decide +kernel
theorem d_D_divides_55 : decode c_D_divides 55 = .ok (.lcmp, 1) := by decide +kernel
theorem d_D_divides_56 : decode c_D_divides 56 = .ok (.ifCond .ne 12, 3) := by decide +kernel
theorem d_D_divides_59 : decode c_D_divides 59 = .ok (.iload_n 3, 1) := by decide +kernel
theorem d_D_divides_60 : decode c_D_divides 60 = .ok (.iconst (-1), 1) := by decide +kernel
theorem d_D_divides_61 : decode c_D_divides 61 = .ok (.if_icmp .ne 7, 3) := by decide +kernel
theorem d_D_divides_64 : decode c_D_divides 64 = .ok (.iconst 1, 1) := by decide +kernel
theorem d_D_divides_65 : decode c_D_divides 65 = .ok (.goto 4, 3) := by decide +kernel
theorem d_D_divides_68 : decode c_D_divides 68 = .ok (.iconst 0, 1) := by decide +kernel
theorem d_D_divides_69 : decode c_D_divides 69 = .ok (.istore 11, 2) := by decide +kernel
theorem d_D_divides_71 : decode c_D_divides 71 = .ok (.iload 11, 2) := by decide +kernel
theorem d_D_divides_73 : decode c_D_divides 73 = .ok (.ifCond .ne 17, 3) := by decide +kernel
theorem d_D_divides_76 : decode c_D_divides 76 = .ok (.lload 8, 2) := by decide +kernel
theorem d_D_divides_78 : decode c_D_divides 78 = .ok (.ldc2_w 339, 3) := by decide +kernel
theorem d_D_divides_81 : decode c_D_divides 81 = .ok (.ldc2_w 341, 3) := by decide +kernel
theorem d_D_divides_84 : decode c_D_divides 84 = .ok (.invokestatic 282, 3) := by decide +kernel
theorem d_D_divides_87 : decode c_D_divides 87 = .ok (.ifCond .ne 7, 3) := by decide +kernel
theorem d_D_divides_90 : decode c_D_divides 90 = .ok (.iconst 1, 1) := by decide +kernel
theorem d_D_divides_91 : decode c_D_divides 91 = .ok (.goto 4, 3) := by decide +kernel
theorem d_D_divides_94 : decode c_D_divides 94 = .ok (.iconst 0, 1) := by decide +kernel
theorem d_D_divides_95 : decode c_D_divides 95 = .ok (.istore 10, 2) := by decide +kernel
theorem d_D_divides_97 : decode c_D_divides 97 = .ok (.iload 10, 2) := by decide +kernel
theorem d_D_divides_99 : decode c_D_divides 99 = .ok (.ifCond .eq 26, 3) := by decide +kernel
theorem d_D_divides_102 : decode c_D_divides 102 = .ok (.iload 11, 2) := by decide +kernel
theorem d_D_divides_104 : decode c_D_divides 104 = .ok (.ifCond .ne 10, 3) := by decide +kernel
theorem d_D_divides_107 : decode c_D_divides 107 = .ok (.lload 8, 2) := by decide +kernel
theorem d_D_divides_109 : decode c_D_divides 109 = .ok (.lconst 0, 1) := by decide +kernel
theorem d_D_divides_110 : decode c_D_divides 110 = .ok (.lcmp, 1) := by decide +kernel
theorem d_D_divides_111 : decode c_D_divides 111 = .ok (.ifCond .le 9, 3) := by decide +kernel
theorem d_D_divides_114 : decode c_D_divides 114 = .ok (.ldc2_w 341, 3) := by decide +kernel
theorem d_D_divides_117 : decode c_D_divides 117 = .ok (.goto 6, 3) := by decide +kernel
theorem d_D_divides_120 : decode c_D_divides 120 = .ok (.ldc2_w 339, 3) := by decide +kernel
theorem d_D_divides_123 : decode c_D_divides 123 = .ok (.lstore 8, 2) := by decide +kernel
theorem d_D_divides_125 : decode c_D_divides 125 = .ok (.goto 43, 3) := by decide +kernel
theorem d_D_divides_128 : decode c_D_divides 128 = .ok (.lload 6, 2) := by decide +kernel
theorem d_D_divides_130 : decode c_D_divides 130 = .ok (.iload_n 3, 1) := by decide +kernel
theorem d_D_divides_131 : decode c_D_divides 131 = .ok (.invokestatic 326, 3) := by decide +kernel
theorem d_D_divides_134 : decode c_D_divides 134 = .ok (.invokestatic 343, 3) := by decide +kernel
theorem d_D_divides_137 : decode c_D_divides 137 = .ok (.lstore 8, 2) := by decide +kernel
theorem d_D_divides_139 : decode c_D_divides 139 = .ok (.lload 8, 2) := by decide +kernel
theorem d_D_divides_141 : decode c_D_divides 141 = .ok (.lconst 0, 1) := by decide +kernel
theorem d_D_divides_142 : decode c_D_divides 142 = .ok (.ldc2_w 315, 3) := by decide +kernel
theorem d_D_divides_145 : decode c_D_divides 145 = .ok (.invokestatic 282, 3) := by decide +kernel
theorem d_D_divides_148 : decode c_D_divides 148 = .ok (.ifCond .ne 7, 3) := by decide +kernel
theorem d_D_divides_151 : decode c_D_divides 151 = .ok (.iconst 1, 1) := by decide +kernel
theorem d_D_divides_152 : decode c_D_divides 152 = .ok (.goto 4, 3) := by decide +kernel
theorem d_D_divides_155 : decode c_D_divides 155 = .ok (.iconst 0, 1) := by decide +kernel
theorem d_D_divides_156 : decode c_D_divides 156 = .ok (.istore 10, 2) := by decide +kernel
theorem d_D_divides_158 : decode c_D_divides 158 = .ok (.iload 10, 2) := by decide +kernel
theorem d_D_divides_160 : decode c_D_divides 160 = .ok (.ifCond .eq 8, 3) := by decide +kernel
theorem d_D_divides_163 : decode c_D_divides 163 = .ok (.ldc2_w 315, 3) := by decide +kernel
theorem d_D_divides_166 : decode c_D_divides 166 = .ok (.lstore 8, 2) := by decide +kernel
theorem d_D_divides_168 : decode c_D_divides 168 = .ok (.iload 5, 2) := by decide +kernel
theorem d_D_divides_170 : decode c_D_divides 170 = .ok (.ifCond .eq 12, 3) := by decide +kernel
theorem d_D_divides_173 : decode c_D_divides 173 = .ok (.aload_n 0, 1) := by decide +kernel
theorem d_D_divides_174 : decode c_D_divides 174 = .ok (.lload 8, 2) := by decide +kernel
theorem d_D_divides_176 : decode c_D_divides 176 = .ok (.iload 10, 2) := by decide +kernel
theorem d_D_divides_178 : decode c_D_divides 178 = .ok (.iconst 0, 1) := by decide +kernel
theorem d_D_divides_179 : decode c_D_divides 179 = .ok (.invokevirtual 330, 3) := by decide +kernel
theorem d_D_divides_182 : decode c_D_divides 182 = .ok (.aload_n 0, 1) := by decide +kernel
theorem d_D_divides_183 : decode c_D_divides 183 = .ok (.iload_n 1, 1) := by decide +kernel
theorem d_D_divides_184 : decode c_D_divides 184 = .ok (.aload_n 0, 1) := by decide +kernel
theorem d_D_divides_185 : decode c_D_divides 185 = .ok (.getfield 237, 3) := by decide +kernel
theorem d_D_divides_188 : decode c_D_divides 188 = .ok (.lload 8, 2) := by decide +kernel
theorem d_D_divides_190 : decode c_D_divides 190 = .ok (.l2i, 1) := by decide +kernel
theorem d_D_divides_191 : decode c_D_divides 191 = .ok (.invokevirtual 309, 3) := by decide +kernel
theorem d_D_divides_194 : decode c_D_divides 194 = .ok (.return_, 1) := by decide +kernel
theorem kd_D_divides : (y_D_divides).cls = "WindowMachineModel" ∧ (y_D_divides).cls ≠ "java/lang/invoke/MethodHandle" ∧ (y_D_divides).cls ≠ "java/lang/invoke/VarHandle" ∧ (parseMethodDescriptor (y_D_divides).desc).map (fun d => d.parameters.length) = some 5 := by decide +kernel
def m_divides (st : SD) (p0 : Int32) (p1 : Int32) (p2 : Int32) (p3 : Int32) (p4 : Int32) : SD := (let x_1 := (if p2 = (0 : Int32) then (1 : Int32) else (0 : Int32)); (let u_4 := m_traps st x_1 (42 : Int32); (if (u_4.1 21) < (0 : Int32) then (let r_6 := m_bare p1; (let x_7 := (zlshl ((u_4.1 7).toInt64) (32 : Int32)) ||| r_6; (if p3 = (0 : Int32) then (let r_9 := m_bare p2; (let r_10 := m_unsigned x_7 r_9; (let r_11 := m_in r_10 (0 : Int64) (4294967295 : Int64); (let x_12 := (if r_11 = (0 : Int32) then (1 : Int32) else (0 : Int32)); (let x_15 := (if x_12 = (0 : Int32) then r_10 else (4294967295 : Int64)); (let u_18 := (if p4 = (0 : Int32) then u_4 else m_flags u_4 x_15 x_12 (0 : Int32)); (let u_22 := m_gives u_18 p0 (u_18.1 6) x_15.toInt32; u_22))))))) else (let x_23 := (if (lg_cmp x_7 (-9223372036854775808 : Int64)) = (0 : Int32) then (if p2 = (-1 : Int32) then (1 : Int32) else (0 : Int32)) else (0 : Int32)); (let x_27 := (if x_23 = (0 : Int32) then (if (m_in (x_7 / p2.toInt64) (-2147483648 : Int64) (2147483647 : Int64)) = (0 : Int32) then (1 : Int32) else (0 : Int32)) else (1 : Int32)); (let x_32 := (if x_27 = (0 : Int32) then x_7 / p2.toInt64 else (if x_23 = (0 : Int32) then (if (lg_cmp (x_7 / p2.toInt64) (0 : Int64)) ≤ (0 : Int32) then (-2147483648 : Int64) else (2147483647 : Int64)) else (2147483647 : Int64))); (let u_39 := (if p4 = (0 : Int32) then u_4 else m_flags u_4 x_32 x_27 (0 : Int32)); (let u_43 := m_gives u_39 p0 (u_39.1 6) x_32.toInt32; u_43)))))))) else u_4)))
set_option maxHeartbeats 4000000 in
set_option maxRecDepth 100000 in
theorem mt_D_divides (l : Launch) (D : va_G) (h : Nat → Nat) (c : Nat → ClassId) (sz : Nat) (st : SD) (p0 : Int32) (p1 : Int32) (p2 : Int32) (p3 : Int32) (p4 : Int32) (hV : okV st) (hr9 : vp_in p0 32) : Met l y_D_divides w_D_divides ({ frames := 1, cells := 0, slots := 0, locals := 29 }) (va_Pc [.ref (h 20), .int p0, .int p1, .int p2, .int p3, .int p4] (zw_pre D vwCl [(c 21, .long), (c 22, .int), (c 23, .int), (c 24, .int), (c 25, .int), (c 26, .int), (c 27, .int), (c 28, .int)] sz (wD h c st) (fun _ => True))) (va_Qv (fun (u : SD) => u = m_divides st p0 p1 p2 p3 p4) (fun u t => zw_at D vwCl (va_A (wD h c st) sz) ((fun (u : SD) => wD h c u) u) t) (va_A (wD h c st) sz)) 0 0 (va_A (wD h c st) sz) := by
  refine zm (Qf := fun A => va_Qv (fun (u : SD) => u = m_divides st p0 p1 p2 p3 p4) (fun u t => zw_at D vwCl A ((fun (u : SD) => wD h c u) u) t) A) (Zf := fun _ _ => True) (cc := c_D_divides) (nL := 12) (ret := none) (by decide) rfl (Nat.le_of_ble_eq_true rfl) ?_
  intro p e s m below meth c9 A H locs ls hx hb hml hown hts hr hlocks hA hK hP hD hS hZ hl
  have hl : lv_has ls 12 [(0, .ref (h 20)), (1, .int p0), (2, .int p1), (3, .int p2), (4, .int p3), (5, .int p4)] := hl
  have ht : ∀ w9 ∈ zT, w9.before _ s = true := fun w9 h9 => hts w9 (List.mem_cons_of_mem _ h9)
  refine lv_aload_n hx hb d_D_divides_0 rfl (lv_at hl 0 rfl) ?_
  refine lv_iload_n hx hb d_D_divides_1 rfl (lv_at hl 3 rfl) ?_
  refine zcut (X := Int32) (G := fun v9 H locs ls => v9 = (if p2 = (0 : Int32) then (1 : Int32) else (0 : Int32)) ∧ va_P D vwCl (wD h c st) H ∧ va_D A (wD h c st) ∧ va_S A s.heap H locs ∧ lv_has ls 12 [(0, .ref (h 20)), (1, .int p0), (2, .int p1), (3, .int p2), (4, .int p3), (5, .int p4)]) (fr := fun v9 ls => F0 m 10 ls [.int v9, .ref (h 20)]) (fun J_2 => ?_) (fun v9 H locs ls hG => ?_)
  · refine lv_if_ne (tgt := 9) hx hb d_D_divides_2 (by decide) (fun c_3 => ?_) (fun c_3 => ?_)
    · refine lv_iconst (v := (0 : Int32)) hx hb d_D_divides_9 (by decide) ?_
      exact J_2 (0 : Int32) _ _ _ ⟨by simp only [if_neg c_3], hP, hD, hS, hl⟩
    refine lv_iconst (v := (1 : Int32)) hx hb d_D_divides_5 (by decide) ?_
    refine lv_goto (tgt := 10) hx hb d_D_divides_6 (by decide) ?_
    exact J_2 (1 : Int32) _ _ _ ⟨by simp only [if_pos c_3], hP, hD, hS, hl⟩
  obtain ⟨x_1, rfl⟩ : ∃ z, z = v9 := ⟨_, rfl⟩
  obtain ⟨ex_1, hP, hD, hS, hl⟩ := hG
  have zbx_1 : zB x_1 := by rw [ex_1]; repeat' first | with_reducible exact zB0 | with_reducible exact zB1 | with_reducible assumption | with_reducible refine zB_ite ?_ ?_
  refine lv_bipush (v := (42 : Int32)) hx hb d_D_divides_10 (by decide) ?_
  refine zc_v (w2 := fun u9 => wD h c u9) (va_runV (As := [.int x_1, .int (42 : Int32)]) (rest := []) ⟨hx, hb, hml, hown, ht⟩ (mt_D_traps l D h c H.size st x_1 (42 : Int32)) (cwV 2 ht (zgV zw_1007 zw_1009 zs_59 zw_7 zw_1010) rfl rfl rfl kd_D_traps ⟨Nat.le_of_ble_eq_true rfl, Nat.le_of_ble_eq_true rfl⟩) ⟨zw_blind zw_tt, va_recv (hK.sub (tys' := [(c 21, .long), (c 22, .int), (c 23, .int), (c 24, .int), (c 25, .int), (c 26, .int), (c 27, .int), (c 28, .int)]) [0, 1, 2, 3, 4, 5, 6, 7] rfl) (hP.sub (ws' := wD h c st) [0, 1, 2, 3, 4, 5, 6, 7, 8] rfl) (ci := 6) (q0 := 0) rfl rfl, zw_go (hP.sub (ws' := wD h c st) [0, 1, 2, 3, 4, 5, 6, 7, 8] rfl) (hD.sub (ws' := wD h c st) [0, 1, 2, 3, 4, 5, 6, 7, 8] (by decide) rfl) (hK.sub (tys' := [(c 21, .long), (c 22, .int), (c 23, .int), (c 24, .int), (c 25, .int), (c 26, .int), (c 27, .int), (c 28, .int)]) [0, 1, 2, 3, 4, 5, 6, 7] rfl) (fun _ _ _ => trivial)⟩ rfl rfl hl.1 rfl (lv_room (Nat.le_of_ble_eq_true rfl)) d_D_divides_12 ⟨Nat.le_of_ble_eq_true rfl, Nat.le_of_ble_eq_true rfl⟩) hP hD hS hA [0, 1, 2, 3, 4, 5, 6, 7, 8] [] [0, 1, 2, 3, 4, 5, 6, 7, 8] rfl rfl (by decide) (by decide) (by decide) (fun _ => rfl) (fun u_4 H locs hw hP hD hS => ?_)
  have eu_4 := hw
  have ok_4 : okV u_4 := by rw [eu_4]; exact (ov_traps hV)
  refine lv_aload_n hx hb d_D_divides_15 rfl (lv_at hl 0 rfl) ?_
  refine va_get (D := D) (ci := 6) (v := .int (u_4.1 21)) (C := "WindowMachineModel") (T := T_D) (N := 31) hx hb ht zi_D hown hK hP 0 rfl rfl 29 (by decide) (ht _ zw_883) (fun _ h9 => h9) rfl d_D_divides_16 ?_
  refine lv_if_lt (tgt := 23) hx hb d_D_divides_19 (by decide) (fun c_5 => ?_) (fun c_5 => ?_)
  · refine lv_aload_n hx hb d_D_divides_23 rfl (lv_at hl 0 rfl) ?_
    refine va_get (D := D) (ci := 6) (v := .int (u_4.1 7)) (C := "WindowMachineModel") (T := T_D) (N := 31) hx hb ht zi_D hown hK hP 0 rfl rfl 15 (by decide) (ht _ zw_869) (fun _ h9 => h9) rfl d_D_divides_24 ?_
    refine lv_i2l (v := (u_4.1 7).toInt64) hx hb d_D_divides_27 rfl ?_
    refine lv_bipush (v := (32 : Int32)) hx hb d_D_divides_28 (by decide) ?_
    refine lv_lshl (v := zlshl ((u_4.1 7).toInt64) (32 : Int32)) hx hb d_D_divides_30 rfl ?_
    refine lv_iload_n hx hb d_D_divides_31 rfl (lv_at hl 2 rfl) ?_
    refine zc_l (w2 := fun _ => wD h c u_4) (va_runS (As := [.int p1]) (rest := [.long (zlshl ((u_4.1 7).toInt64) (32 : Int32))]) ⟨hx, hb, hml, hown, ht⟩ (mt_D_bare l D H.size p1) (cwS 1 ht (zgS zw_1035 zw_1036 zw_7 zw_1037) rfl rfl rfl kd_D_bare ⟨Nat.le_of_ble_eq_true rfl, Nat.le_of_ble_eq_true rfl⟩) ⟨zw_blind zw_tt, zw_go (hP.sub (ws' := []) [] rfl) (hD.sub (ws' := []) [] (by decide) rfl) (hK.sub (tys' := []) [] rfl) (fun _ _ _ => trivial)⟩ rfl rfl hl.1 rfl (lv_room (Nat.le_of_ble_eq_true rfl)) d_D_divides_32 ⟨Nat.le_of_ble_eq_true rfl, Nat.le_of_ble_eq_true rfl⟩) hP hD hS hA [] [0, 1, 2, 3, 4, 5, 6, 7, 8] [0, 1, 2, 3, 4, 5, 6, 7, 8] rfl rfl (by decide) (by decide) (by decide) (fun _ => rfl) (fun r_6 _ H locs hw hP hD hS => ?_)
    have er_6 := hw
    refine lv_lor hx hb d_D_divides_35 ?_
    refine lv_topl (fun x_7 ex_7 => ?_)
    refine lv_lstore (lv' := [(6, .long x_7), (0, .ref (h 20)), (1, .int p0), (2, .int p1), (3, .int p2), (4, .int p3), (5, .int p4)]) hx hb d_D_divides_36 hl (by decide) rfl (fun ls hl => ?_)
    refine lv_iload hx hb d_D_divides_38 (lv_at hl 5 rfl) ?_
    refine lv_if_eq (tgt := 128) hx hb d_D_divides_40 (by decide) (fun c_8 => ?_) (fun c_8 => ?_)
    · refine lv_lload hx hb d_D_divides_128 (lv_at hl 0 rfl) ?_
      refine lv_iload_n hx hb d_D_divides_130 rfl (lv_at hl 4 rfl) ?_
      refine zc_l (w2 := fun _ => wD h c u_4) (va_runS (As := [.int p2]) (rest := [.long x_7]) ⟨hx, hb, hml, hown, ht⟩ (mt_D_bare l D H.size p2) (cwS 1 ht (zgS zw_1035 zw_1036 zw_7 zw_1037) rfl rfl rfl kd_D_bare ⟨Nat.le_of_ble_eq_true rfl, Nat.le_of_ble_eq_true rfl⟩) ⟨zw_blind zw_tt, zw_go (hP.sub (ws' := []) [] rfl) (hD.sub (ws' := []) [] (by decide) rfl) (hK.sub (tys' := []) [] rfl) (fun _ _ _ => trivial)⟩ rfl rfl hl.1 rfl (lv_room (Nat.le_of_ble_eq_true rfl)) d_D_divides_131 ⟨Nat.le_of_ble_eq_true rfl, Nat.le_of_ble_eq_true rfl⟩) hP hD hS hA [] [0, 1, 2, 3, 4, 5, 6, 7, 8] [0, 1, 2, 3, 4, 5, 6, 7, 8] rfl rfl (by decide) (by decide) (by decide) (fun _ => rfl) (fun r_9 _ H locs hw hP hD hS => ?_)
      have er_9 := hw
      refine zc_l (w2 := fun _ => wD h c u_4) (va_runS (As := [.long x_7, .long r_9]) (rest := []) ⟨hx, hb, hml, hown, ht⟩ (mt_D_unsigned l D H.size x_7 r_9) (cwS 2 ht (zgS zw_1057 zw_1058 zw_7 zw_1059) rfl rfl rfl kd_D_unsigned ⟨Nat.le_of_ble_eq_true rfl, Nat.le_of_ble_eq_true rfl⟩) ⟨zw_blind zw_tt, zw_go (hP.sub (ws' := []) [] rfl) (hD.sub (ws' := []) [] (by decide) rfl) (hK.sub (tys' := []) [] rfl) (fun _ _ _ => trivial)⟩ rfl rfl hl.1 rfl (lv_room (Nat.le_of_ble_eq_true rfl)) d_D_divides_134 ⟨Nat.le_of_ble_eq_true rfl, Nat.le_of_ble_eq_true rfl⟩) hP hD hS hA [] [0, 1, 2, 3, 4, 5, 6, 7, 8] [0, 1, 2, 3, 4, 5, 6, 7, 8] rfl rfl (by decide) (by decide) (by decide) (fun _ => rfl) (fun r_10 _ H locs hw hP hD hS => ?_)
      have er_10 := hw
      refine lv_lstore (lv' := [(8, .long r_10), (6, .long x_7), (0, .ref (h 20)), (1, .int p0), (2, .int p1), (3, .int p2), (4, .int p3), (5, .int p4)]) hx hb d_D_divides_137 hl (by decide) rfl (fun ls hl => ?_)
      refine lv_lload hx hb d_D_divides_139 (lv_at hl 0 rfl) ?_
      refine lv_lconst (v := (0 : Int64)) hx hb d_D_divides_141 (by decide) ?_
      refine lv_ldc2 (v := (4294967295 : Int64)) hx hb hown (ht _ zw_1038) d_D_divides_142 ?_
      refine zc_i (w2 := fun _ => wD h c u_4) (va_runS (As := [.long r_10, .long (0 : Int64), .long (4294967295 : Int64)]) (rest := []) ⟨hx, hb, hml, hown, ht⟩ (mt_D_in l D H.size r_10 (0 : Int64) (4294967295 : Int64)) (cwS 3 ht (zgS zw_961 zw_962 zw_7 zw_963) rfl rfl rfl kd_D_in ⟨Nat.le_of_ble_eq_true rfl, Nat.le_of_ble_eq_true rfl⟩) ⟨zw_blind zw_tt, zw_go (hP.sub (ws' := []) [] rfl) (hD.sub (ws' := []) [] (by decide) rfl) (hK.sub (tys' := []) [] rfl) (fun _ _ _ => trivial)⟩ rfl rfl hl.1 rfl (lv_room (Nat.le_of_ble_eq_true rfl)) d_D_divides_145 ⟨Nat.le_of_ble_eq_true rfl, Nat.le_of_ble_eq_true rfl⟩) hP hD hS hA [] [0, 1, 2, 3, 4, 5, 6, 7, 8] [0, 1, 2, 3, 4, 5, 6, 7, 8] rfl rfl (by decide) (by decide) (by decide) (fun _ => rfl) (fun r_11 _ H locs hw hP hD hS => ?_)
      have er_11 := hw
      refine zcut (X := Int32) (G := fun v9 H locs ls => v9 = (if r_11 = (0 : Int32) then (1 : Int32) else (0 : Int32)) ∧ va_P D vwCl (wD h c u_4) H ∧ va_D A (wD h c u_4) ∧ va_S A s.heap H locs ∧ lv_has ls 12 [(0, .ref (h 20)), (1, .int p0), (2, .int p1), (3, .int p2), (4, .int p3), (5, .int p4), (6, .long x_7), (8, .long r_10)]) (fr := fun v9 ls => F0 m 156 ls [.int v9]) (fun J_13 => ?_) (fun v9 H locs ls hG => ?_)
      · refine lv_if_ne (tgt := 155) hx hb d_D_divides_148 (by decide) (fun c_14 => ?_) (fun c_14 => ?_)
        · refine lv_iconst (v := (0 : Int32)) hx hb d_D_divides_155 (by decide) ?_
          exact J_13 (0 : Int32) _ _ _ ⟨by simp only [if_neg c_14], hP, hD, hS, (lv_sub hl [2, 3, 4, 5, 6, 7, 1, 0] rfl)⟩
        refine lv_iconst (v := (1 : Int32)) hx hb d_D_divides_151 (by decide) ?_
        refine lv_goto (tgt := 156) hx hb d_D_divides_152 (by decide) ?_
        exact J_13 (1 : Int32) _ _ _ ⟨by simp only [if_pos c_14], hP, hD, hS, (lv_sub hl [2, 3, 4, 5, 6, 7, 1, 0] rfl)⟩
      obtain ⟨x_12, rfl⟩ : ∃ z, z = v9 := ⟨_, rfl⟩
      obtain ⟨ex_12, hP, hD, hS, hl⟩ := hG
      have zbx_12 : zB x_12 := by rw [ex_12]; repeat' first | with_reducible exact zB0 | with_reducible exact zB1 | with_reducible assumption | with_reducible refine zB_ite ?_ ?_
      refine lv_istore (lv' := [(10, .int x_12), (0, .ref (h 20)), (1, .int p0), (2, .int p1), (3, .int p2), (4, .int p3), (5, .int p4), (6, .long x_7), (8, .long r_10)]) hx hb d_D_divides_156 hl (by decide) rfl (fun ls hl => ?_)
      refine lv_iload hx hb d_D_divides_158 (lv_at hl 0 rfl) ?_
      refine zcut (X := Int64) (G := fun v9 H locs ls => v9 = (if x_12 = (0 : Int32) then r_10 else (4294967295 : Int64)) ∧ va_P D vwCl (wD h c u_4) H ∧ va_D A (wD h c u_4) ∧ va_S A s.heap H locs ∧ lv_has ls 12 [(0, .ref (h 20)), (1, .int p0), (2, .int p1), (3, .int p2), (4, .int p3), (5, .int p4), (6, .long x_7), (8, .long v9), (10, .int x_12)]) (fr := fun v9 ls => F0 m 168 ls []) (fun J_16 => ?_) (fun v9 H locs ls hG => ?_)
      · refine lv_if_eq (tgt := 168) hx hb d_D_divides_160 (by decide) (fun c_17 => ?_) (fun c_17 => ?_)
        · exact J_16 r_10 _ _ _ ⟨by simp only [if_pos c_17], hP, hD, hS, (lv_sub hl [1, 2, 3, 4, 5, 6, 7, 8, 0] rfl)⟩
        refine lv_ldc2 (v := (4294967295 : Int64)) hx hb hown (ht _ zw_1038) d_D_divides_163 ?_
        refine lv_lstore (lv' := [(8, .long (4294967295 : Int64)), (10, .int x_12), (0, .ref (h 20)), (1, .int p0), (2, .int p1), (3, .int p2), (4, .int p3), (5, .int p4), (6, .long x_7)]) hx hb d_D_divides_166 hl (by decide) rfl (fun ls hl => ?_)
        exact J_16 (4294967295 : Int64) _ _ _ ⟨by simp only [if_neg c_17], hP, hD, hS, (lv_sub hl [2, 3, 4, 5, 6, 7, 8, 0, 1] rfl)⟩
      obtain ⟨x_15, rfl⟩ : ∃ z, z = v9 := ⟨_, rfl⟩
      obtain ⟨ex_15, hP, hD, hS, hl⟩ := hG
      refine lv_iload hx hb d_D_divides_168 (lv_at hl 5 rfl) ?_
      refine zcut (X := SD) (G := fun v9 H locs ls => v9 = (if p4 = (0 : Int32) then u_4 else m_flags u_4 x_15 x_12 (0 : Int32)) ∧ va_P D vwCl (wD h c v9) H ∧ va_D A (wD h c v9) ∧ va_S A s.heap H locs ∧ lv_has ls 12 [(0, .ref (h 20)), (1, .int p0), (2, .int p1), (3, .int p2), (4, .int p3), (5, .int p4), (6, .long x_7), (8, .long x_15), (10, .int x_12)]) (fr := fun v9 ls => F0 m 182 ls []) (fun J_19 => ?_) (fun v9 H locs ls hG => ?_)
      · refine lv_if_eq (tgt := 182) hx hb d_D_divides_170 (by decide) (fun c_20 => ?_) (fun c_20 => ?_)
        · exact J_19 u_4 _ _ _ ⟨by simp only [if_pos c_20], hP, hD, hS, hl⟩
        refine lv_aload_n hx hb d_D_divides_173 rfl (lv_at hl 0 rfl) ?_
        refine lv_lload hx hb d_D_divides_174 (lv_at hl 7 rfl) ?_
        refine lv_iload hx hb d_D_divides_176 (lv_at hl 8 rfl) ?_
        refine lv_iconst (v := (0 : Int32)) hx hb d_D_divides_178 (by decide) ?_
        refine zc_v (w2 := fun u9 => wD h c u9) (va_runV (As := [.long x_15, .int x_12, .int (0 : Int32)]) (rest := []) ⟨hx, hb, hml, hown, ht⟩ (mt_D_flags l D h c H.size u_4 x_15 x_12 (0 : Int32) zbx_12 zB0) (cwV 3 ht (zgV zw_1039 zw_1041 zs_66 zw_7 zw_1042) rfl rfl rfl kd_D_flags ⟨Nat.le_of_ble_eq_true rfl, Nat.le_of_ble_eq_true rfl⟩) ⟨zw_blind zw_tt, va_recv (hK.sub (tys' := [(c 21, .long), (c 22, .int), (c 23, .int), (c 24, .int), (c 25, .int), (c 26, .int), (c 27, .int), (c 28, .int)]) [0, 1, 2, 3, 4, 5, 6, 7] rfl) (hP.sub (ws' := wD h c u_4) [0, 1, 2, 3, 4, 5, 6, 7, 8] rfl) (ci := 6) (q0 := 0) rfl rfl, zw_go (hP.sub (ws' := wD h c u_4) [0, 1, 2, 3, 4, 5, 6, 7, 8] rfl) (hD.sub (ws' := wD h c u_4) [0, 1, 2, 3, 4, 5, 6, 7, 8] (by decide) rfl) (hK.sub (tys' := [(c 21, .long), (c 22, .int), (c 23, .int), (c 24, .int), (c 25, .int), (c 26, .int), (c 27, .int), (c 28, .int)]) [0, 1, 2, 3, 4, 5, 6, 7] rfl) (fun _ _ _ => trivial)⟩ rfl rfl hl.1 rfl (lv_room (Nat.le_of_ble_eq_true rfl)) d_D_divides_179 ⟨Nat.le_of_ble_eq_true rfl, Nat.le_of_ble_eq_true rfl⟩) hP hD hS hA [0, 1, 2, 3, 4, 5, 6, 7, 8] [] [0, 1, 2, 3, 4, 5, 6, 7, 8] rfl rfl (by decide) (by decide) (by decide) (fun _ => rfl) (fun u_21 H locs hw hP hD hS => ?_)
        subst hw
        exact J_19 (m_flags u_4 x_15 x_12 (0 : Int32)) _ _ _ ⟨by simp only [if_neg c_20], hP, hD, hS, hl⟩
      obtain ⟨u_18, rfl⟩ : ∃ z, z = v9 := ⟨_, rfl⟩
      obtain ⟨eu_18, hP, hD, hS, hl⟩ := hG
      have ok_18 : okV u_18 := by rw [eu_18]; exact (okV_iteD (fun c_18 => ok_4) (fun c_18 => (ov_flags ok_4)))
      refine lv_aload_n hx hb d_D_divides_182 rfl (lv_at hl 0 rfl) ?_
      refine lv_iload_n hx hb d_D_divides_183 rfl (lv_at hl 1 rfl) ?_
      refine lv_aload_n hx hb d_D_divides_184 rfl (lv_at hl 0 rfl) ?_
      refine va_get (D := D) (ci := 6) (v := .int (u_18.1 6)) (C := "WindowMachineModel") (T := T_D) (N := 31) hx hb ht zi_D hown hK hP 0 rfl rfl 14 (by decide) (ht _ zw_868) (fun _ h9 => h9) rfl d_D_divides_185 ?_
      refine lv_lload hx hb d_D_divides_188 (lv_at hl 7 rfl) ?_
      refine lv_l2i (v := x_15.toInt32) hx hb d_D_divides_190 rfl ?_
      refine zc_v (w2 := fun u9 => wD h c u9) (va_runV (As := [.int p0, .int (u_18.1 6), .int x_15.toInt32]) (rest := []) ⟨hx, hb, hml, hown, ht⟩ (mt_D_gives l D h c H.size u_18 p0 (u_18.1 6) x_15.toInt32 hr9 (ok_18).1) (cwV 3 ht (zgV zw_990 zw_992 zs_57 zw_7 zw_993) rfl rfl rfl kd_D_gives ⟨Nat.le_of_ble_eq_true rfl, Nat.le_of_ble_eq_true rfl⟩) ⟨zw_blind zw_tt, va_recv (hK.sub (tys' := [(c 21, .long), (c 22, .int), (c 23, .int), (c 24, .int), (c 25, .int), (c 26, .int), (c 27, .int), (c 28, .int)]) [0, 1, 2, 3, 4, 5, 6, 7] rfl) (hP.sub (ws' := wD h c u_18) [0, 1, 2, 3, 4, 5, 6, 7, 8] rfl) (ci := 6) (q0 := 0) rfl rfl, zw_go (hP.sub (ws' := wD h c u_18) [0, 1, 2, 3, 4, 5, 6, 7, 8] rfl) (hD.sub (ws' := wD h c u_18) [0, 1, 2, 3, 4, 5, 6, 7, 8] (by decide) rfl) (hK.sub (tys' := [(c 21, .long), (c 22, .int), (c 23, .int), (c 24, .int), (c 25, .int), (c 26, .int), (c 27, .int), (c 28, .int)]) [0, 1, 2, 3, 4, 5, 6, 7] rfl) (fun _ _ _ => trivial)⟩ rfl rfl hl.1 rfl (lv_room (Nat.le_of_ble_eq_true rfl)) d_D_divides_191 ⟨Nat.le_of_ble_eq_true rfl, Nat.le_of_ble_eq_true rfl⟩) hP hD hS hA [0, 1, 2, 3, 4, 5, 6, 7, 8] [] [0, 1, 2, 3, 4, 5, 6, 7, 8] rfl rfl (by decide) (by decide) (by decide) (fun _ => rfl) (fun u_22 H locs hw hP hD hS => ?_)
      have eu_22 := hw
      have ok_22 : okV u_22 := by rw [eu_22]; exact (ov_gives ok_18)
      exact zl_v (u := u_22) hx hb hr hlocks hS hP hD (by simp only [m_divides, ← ex_1, ← eu_4, ← er_6, ← ex_7, ← er_9, ← er_10, ← er_11, ← ex_12, ← ex_15, ← eu_18, ← eu_22]; try simp only [if_pos c_5, if_pos c_8]) d_D_divides_194
    refine lv_lload hx hb d_D_divides_43 (lv_at hl 0 rfl) ?_
    refine lv_iload_n hx hb d_D_divides_45 rfl (lv_at hl 4 rfl) ?_
    refine lv_i2l (v := p2.toInt64) hx hb d_D_divides_46 rfl ?_
    refine lv_ldiv hx hb d_D_divides_47 (dv_ne eu_4 ex_1 c_5) ?_
    refine lv_lstore (lv' := [(8, .long (x_7 / p2.toInt64)), (6, .long x_7), (0, .ref (h 20)), (1, .int p0), (2, .int p1), (3, .int p2), (4, .int p3), (5, .int p4)]) hx hb d_D_divides_48 hl (by decide) rfl (fun ls hl => ?_)
    refine lv_lload hx hb d_D_divides_50 (lv_at hl 1 rfl) ?_
    refine lv_ldc2 (v := (-9223372036854775808 : Int64)) hx hb hown (ht _ zw_1054) d_D_divides_52 ?_
    refine W.lcmp hx hb d_D_divides_55 ?_
    refine zcut (X := Int32) (G := fun v9 H locs ls => v9 = (if (lg_cmp x_7 (-9223372036854775808 : Int64)) = (0 : Int32) then (if p2 = (-1 : Int32) then (1 : Int32) else (0 : Int32)) else (0 : Int32)) ∧ va_P D vwCl (wD h c u_4) H ∧ va_D A (wD h c u_4) ∧ va_S A s.heap H locs ∧ lv_has ls 12 [(0, .ref (h 20)), (1, .int p0), (2, .int p1), (3, .int p2), (4, .int p3), (5, .int p4), (6, .long x_7), (8, .long (x_7 / p2.toInt64))]) (fr := fun v9 ls => F0 m 69 ls [.int v9]) (fun J_24 => ?_) (fun v9 H locs ls hG => ?_)
    · refine lv_if_ne (tgt := 68) hx hb d_D_divides_56 (by decide) (fun c_25 => ?_) (fun c_25 => ?_)
      · refine lv_iconst (v := (0 : Int32)) hx hb d_D_divides_68 (by decide) ?_
        exact J_24 (0 : Int32) _ _ _ ⟨by simp only [if_neg c_25], hP, hD, hS, (lv_sub hl [2, 3, 4, 5, 6, 7, 1, 0] rfl)⟩
      refine lv_iload_n hx hb d_D_divides_59 rfl (lv_at hl 5 rfl) ?_
      refine lv_iconst (v := (-1 : Int32)) hx hb d_D_divides_60 (by decide) ?_
      refine lv_icmp_ne (tgt := 68) hx hb d_D_divides_61 (by decide) (fun c_26 => ?_) (fun c_26 => ?_)
      · refine lv_iconst (v := (0 : Int32)) hx hb d_D_divides_68 (by decide) ?_
        exact J_24 (0 : Int32) _ _ _ ⟨by simp only [if_pos c_25, if_neg c_26], hP, hD, hS, (lv_sub hl [2, 3, 4, 5, 6, 7, 1, 0] rfl)⟩
      refine lv_iconst (v := (1 : Int32)) hx hb d_D_divides_64 (by decide) ?_
      refine lv_goto (tgt := 69) hx hb d_D_divides_65 (by decide) ?_
      exact J_24 (1 : Int32) _ _ _ ⟨by simp only [if_pos c_25, if_pos c_26], hP, hD, hS, (lv_sub hl [2, 3, 4, 5, 6, 7, 1, 0] rfl)⟩
    obtain ⟨x_23, rfl⟩ : ∃ z, z = v9 := ⟨_, rfl⟩
    obtain ⟨ex_23, hP, hD, hS, hl⟩ := hG
    have zbx_23 : zB x_23 := by rw [ex_23]; repeat' first | with_reducible exact zB0 | with_reducible exact zB1 | with_reducible assumption | with_reducible refine zB_ite ?_ ?_
    refine lv_istore (lv' := [(11, .int x_23), (0, .ref (h 20)), (1, .int p0), (2, .int p1), (3, .int p2), (4, .int p3), (5, .int p4), (6, .long x_7), (8, .long (x_7 / p2.toInt64))]) hx hb d_D_divides_69 hl (by decide) rfl (fun ls hl => ?_)
    refine lv_iload hx hb d_D_divides_71 (lv_at hl 0 rfl) ?_
    refine zcut (X := Int32) (G := fun v9 H locs ls => v9 = (if x_23 = (0 : Int32) then (if (m_in (x_7 / p2.toInt64) (-2147483648 : Int64) (2147483647 : Int64)) = (0 : Int32) then (1 : Int32) else (0 : Int32)) else (1 : Int32)) ∧ va_P D vwCl (wD h c u_4) H ∧ va_D A (wD h c u_4) ∧ va_S A s.heap H locs ∧ lv_has ls 12 [(0, .ref (h 20)), (1, .int p0), (2, .int p1), (3, .int p2), (4, .int p3), (5, .int p4), (6, .long x_7), (8, .long (x_7 / p2.toInt64)), (11, .int x_23)]) (fr := fun v9 ls => F0 m 95 ls [.int v9]) (fun J_28 => ?_) (fun v9 H locs ls hG => ?_)
    · refine lv_if_ne (tgt := 90) hx hb d_D_divides_73 (by decide) (fun c_29 => ?_) (fun c_29 => ?_)
      · refine lv_iconst (v := (1 : Int32)) hx hb d_D_divides_90 (by decide) ?_
        refine lv_goto (tgt := 95) hx hb d_D_divides_91 (by decide) ?_
        exact J_28 (1 : Int32) _ _ _ ⟨by simp only [if_neg c_29], hP, hD, hS, (lv_sub hl [1, 2, 3, 4, 5, 6, 7, 8, 0] rfl)⟩
      refine lv_lload hx hb d_D_divides_76 (lv_at hl 8 rfl) ?_
      refine lv_ldc2 (v := (-2147483648 : Int64)) hx hb hown (ht _ zw_1055) d_D_divides_78 ?_
      refine lv_ldc2 (v := (2147483647 : Int64)) hx hb hown (ht _ zw_1056) d_D_divides_81 ?_
      refine zc_i (w2 := fun _ => wD h c u_4) (va_runS (As := [.long (x_7 / p2.toInt64), .long (-2147483648 : Int64), .long (2147483647 : Int64)]) (rest := []) ⟨hx, hb, hml, hown, ht⟩ (mt_D_in l D H.size (x_7 / p2.toInt64) (-2147483648 : Int64) (2147483647 : Int64)) (cwS 3 ht (zgS zw_961 zw_962 zw_7 zw_963) rfl rfl rfl kd_D_in ⟨Nat.le_of_ble_eq_true rfl, Nat.le_of_ble_eq_true rfl⟩) ⟨zw_blind zw_tt, zw_go (hP.sub (ws' := []) [] rfl) (hD.sub (ws' := []) [] (by decide) rfl) (hK.sub (tys' := []) [] rfl) (fun _ _ _ => trivial)⟩ rfl rfl hl.1 rfl (lv_room (Nat.le_of_ble_eq_true rfl)) d_D_divides_84 ⟨Nat.le_of_ble_eq_true rfl, Nat.le_of_ble_eq_true rfl⟩) hP hD hS hA [] [0, 1, 2, 3, 4, 5, 6, 7, 8] [0, 1, 2, 3, 4, 5, 6, 7, 8] rfl rfl (by decide) (by decide) (by decide) (fun _ => rfl) (fun r_30 _ H locs hw hP hD hS => ?_)
      subst hw
      refine lv_if_ne (tgt := 94) hx hb d_D_divides_87 (by decide) (fun c_31 => ?_) (fun c_31 => ?_)
      · refine lv_iconst (v := (0 : Int32)) hx hb d_D_divides_94 (by decide) ?_
        exact J_28 (0 : Int32) _ _ _ ⟨by simp only [if_pos c_29, if_neg c_31], hP, hD, hS, (lv_sub hl [1, 2, 3, 4, 5, 6, 7, 8, 0] rfl)⟩
      refine lv_iconst (v := (1 : Int32)) hx hb d_D_divides_90 (by decide) ?_
      refine lv_goto (tgt := 95) hx hb d_D_divides_91 (by decide) ?_
      exact J_28 (1 : Int32) _ _ _ ⟨by simp only [if_pos c_29, if_pos c_31], hP, hD, hS, (lv_sub hl [1, 2, 3, 4, 5, 6, 7, 8, 0] rfl)⟩
    obtain ⟨x_27, rfl⟩ : ∃ z, z = v9 := ⟨_, rfl⟩
    obtain ⟨ex_27, hP, hD, hS, hl⟩ := hG
    have zbx_27 : zB x_27 := by rw [ex_27]; repeat' first | with_reducible exact zB0 | with_reducible exact zB1 | with_reducible assumption | with_reducible refine zB_ite ?_ ?_
    refine lv_istore (lv' := [(10, .int x_27), (0, .ref (h 20)), (1, .int p0), (2, .int p1), (3, .int p2), (4, .int p3), (5, .int p4), (6, .long x_7), (8, .long (x_7 / p2.toInt64)), (11, .int x_23)]) hx hb d_D_divides_95 hl (by decide) rfl (fun ls hl => ?_)
    refine lv_iload hx hb d_D_divides_97 (lv_at hl 0 rfl) ?_
    refine zcut (X := Int64) (G := fun v9 H locs ls => v9 = (if x_27 = (0 : Int32) then x_7 / p2.toInt64 else (if x_23 = (0 : Int32) then (if (lg_cmp (x_7 / p2.toInt64) (0 : Int64)) ≤ (0 : Int32) then (-2147483648 : Int64) else (2147483647 : Int64)) else (2147483647 : Int64))) ∧ va_P D vwCl (wD h c u_4) H ∧ va_D A (wD h c u_4) ∧ va_S A s.heap H locs ∧ lv_has ls 12 [(0, .ref (h 20)), (1, .int p0), (2, .int p1), (3, .int p2), (4, .int p3), (5, .int p4), (6, .long x_7), (8, .long v9), (10, .int x_27), (11, .int x_23)]) (fr := fun v9 ls => F0 m 125 ls []) (fun J_33 => ?_) (fun v9 H locs ls hG => ?_)
    · refine lv_if_eq (tgt := 125) hx hb d_D_divides_99 (by decide) (fun c_34 => ?_) (fun c_34 => ?_)
      · exact J_33 (x_7 / p2.toInt64) _ _ _ ⟨by simp only [if_pos c_34], hP, hD, hS, (lv_sub hl [1, 2, 3, 4, 5, 6, 7, 8, 0, 9] rfl)⟩
      refine lv_iload hx hb d_D_divides_102 (lv_at hl 9 rfl) ?_
      refine zcut (X := Int64) (G := fun v9 H locs ls => v9 = (if x_23 = (0 : Int32) then (if (lg_cmp (x_7 / p2.toInt64) (0 : Int64)) ≤ (0 : Int32) then (-2147483648 : Int64) else (2147483647 : Int64)) else (2147483647 : Int64)) ∧ va_P D vwCl (wD h c u_4) H ∧ va_D A (wD h c u_4) ∧ va_S A s.heap H locs ∧ lv_has ls 12 [(0, .ref (h 20)), (1, .int p0), (2, .int p1), (3, .int p2), (4, .int p3), (5, .int p4), (6, .long x_7), (8, .long (x_7 / p2.toInt64)), (10, .int x_27), (11, .int x_23)]) (fr := fun v9 ls => F0 m 123 ls [.long v9]) (fun J_36 => ?_) (fun v9 H locs ls hG => ?_)
      · refine lv_if_ne (tgt := 114) hx hb d_D_divides_104 (by decide) (fun c_37 => ?_) (fun c_37 => ?_)
        · refine lv_ldc2 (v := (2147483647 : Int64)) hx hb hown (ht _ zw_1056) d_D_divides_114 ?_
          refine lv_goto (tgt := 123) hx hb d_D_divides_117 (by decide) ?_
          exact J_36 (2147483647 : Int64) _ _ _ ⟨by simp only [if_neg c_37], hP, hD, hS, (lv_sub hl [1, 2, 3, 4, 5, 6, 7, 8, 0, 9] rfl)⟩
        refine lv_lload hx hb d_D_divides_107 (lv_at hl 8 rfl) ?_
        refine lv_lconst (v := (0 : Int64)) hx hb d_D_divides_109 (by decide) ?_
        refine W.lcmp hx hb d_D_divides_110 ?_
        refine lv_if_le (tgt := 120) hx hb d_D_divides_111 (by decide) (fun c_38 => ?_) (fun c_38 => ?_)
        · refine lv_ldc2 (v := (-2147483648 : Int64)) hx hb hown (ht _ zw_1055) d_D_divides_120 ?_
          exact J_36 (-2147483648 : Int64) _ _ _ ⟨by simp only [if_pos c_37, if_pos c_38], hP, hD, hS, (lv_sub hl [1, 2, 3, 4, 5, 6, 7, 8, 0, 9] rfl)⟩
        refine lv_ldc2 (v := (2147483647 : Int64)) hx hb hown (ht _ zw_1056) d_D_divides_114 ?_
        refine lv_goto (tgt := 123) hx hb d_D_divides_117 (by decide) ?_
        exact J_36 (2147483647 : Int64) _ _ _ ⟨by simp only [if_pos c_37, if_neg c_38], hP, hD, hS, (lv_sub hl [1, 2, 3, 4, 5, 6, 7, 8, 0, 9] rfl)⟩
      obtain ⟨x_35, rfl⟩ : ∃ z, z = v9 := ⟨_, rfl⟩
      obtain ⟨ex_35, hP, hD, hS, hl⟩ := hG
      subst ex_35
      refine lv_lstore (lv' := [(8, .long (if x_23 = (0 : Int32) then (if (lg_cmp (x_7 / p2.toInt64) (0 : Int64)) ≤ (0 : Int32) then (-2147483648 : Int64) else (2147483647 : Int64)) else (2147483647 : Int64))), (0, .ref (h 20)), (1, .int p0), (2, .int p1), (3, .int p2), (4, .int p3), (5, .int p4), (6, .long x_7), (10, .int x_27), (11, .int x_23)]) hx hb d_D_divides_123 hl (by decide) rfl (fun ls hl => ?_)
      exact J_33 (if x_23 = (0 : Int32) then (if (lg_cmp (x_7 / p2.toInt64) (0 : Int64)) ≤ (0 : Int32) then (-2147483648 : Int64) else (2147483647 : Int64)) else (2147483647 : Int64)) _ _ _ ⟨by simp only [if_neg c_34], hP, hD, hS, (lv_sub hl [1, 2, 3, 4, 5, 6, 7, 0, 8, 9] rfl)⟩
    obtain ⟨x_32, rfl⟩ : ∃ z, z = v9 := ⟨_, rfl⟩
    obtain ⟨ex_32, hP, hD, hS, hl⟩ := hG
    refine lv_goto (tgt := 168) hx hb d_D_divides_125 (by decide) ?_
    refine lv_iload hx hb d_D_divides_168 (lv_at hl 5 rfl) ?_
    refine zcut (X := SD) (G := fun v9 H locs ls => v9 = (if p4 = (0 : Int32) then u_4 else m_flags u_4 x_32 x_27 (0 : Int32)) ∧ va_P D vwCl (wD h c v9) H ∧ va_D A (wD h c v9) ∧ va_S A s.heap H locs ∧ lv_has ls 12 [(0, .ref (h 20)), (1, .int p0), (2, .int p1), (3, .int p2), (4, .int p3), (5, .int p4), (6, .long x_7), (8, .long x_32), (10, .int x_27), (11, .int x_23)]) (fr := fun v9 ls => F0 m 182 ls []) (fun J_40 => ?_) (fun v9 H locs ls hG => ?_)
    · refine lv_if_eq (tgt := 182) hx hb d_D_divides_170 (by decide) (fun c_41 => ?_) (fun c_41 => ?_)
      · exact J_40 u_4 _ _ _ ⟨by simp only [if_pos c_41], hP, hD, hS, hl⟩
      refine lv_aload_n hx hb d_D_divides_173 rfl (lv_at hl 0 rfl) ?_
      refine lv_lload hx hb d_D_divides_174 (lv_at hl 7 rfl) ?_
      refine lv_iload hx hb d_D_divides_176 (lv_at hl 8 rfl) ?_
      refine lv_iconst (v := (0 : Int32)) hx hb d_D_divides_178 (by decide) ?_
      refine zc_v (w2 := fun u9 => wD h c u9) (va_runV (As := [.long x_32, .int x_27, .int (0 : Int32)]) (rest := []) ⟨hx, hb, hml, hown, ht⟩ (mt_D_flags l D h c H.size u_4 x_32 x_27 (0 : Int32) zbx_27 zB0) (cwV 3 ht (zgV zw_1039 zw_1041 zs_66 zw_7 zw_1042) rfl rfl rfl kd_D_flags ⟨Nat.le_of_ble_eq_true rfl, Nat.le_of_ble_eq_true rfl⟩) ⟨zw_blind zw_tt, va_recv (hK.sub (tys' := [(c 21, .long), (c 22, .int), (c 23, .int), (c 24, .int), (c 25, .int), (c 26, .int), (c 27, .int), (c 28, .int)]) [0, 1, 2, 3, 4, 5, 6, 7] rfl) (hP.sub (ws' := wD h c u_4) [0, 1, 2, 3, 4, 5, 6, 7, 8] rfl) (ci := 6) (q0 := 0) rfl rfl, zw_go (hP.sub (ws' := wD h c u_4) [0, 1, 2, 3, 4, 5, 6, 7, 8] rfl) (hD.sub (ws' := wD h c u_4) [0, 1, 2, 3, 4, 5, 6, 7, 8] (by decide) rfl) (hK.sub (tys' := [(c 21, .long), (c 22, .int), (c 23, .int), (c 24, .int), (c 25, .int), (c 26, .int), (c 27, .int), (c 28, .int)]) [0, 1, 2, 3, 4, 5, 6, 7] rfl) (fun _ _ _ => trivial)⟩ rfl rfl hl.1 rfl (lv_room (Nat.le_of_ble_eq_true rfl)) d_D_divides_179 ⟨Nat.le_of_ble_eq_true rfl, Nat.le_of_ble_eq_true rfl⟩) hP hD hS hA [0, 1, 2, 3, 4, 5, 6, 7, 8] [] [0, 1, 2, 3, 4, 5, 6, 7, 8] rfl rfl (by decide) (by decide) (by decide) (fun _ => rfl) (fun u_42 H locs hw hP hD hS => ?_)
      subst hw
      exact J_40 (m_flags u_4 x_32 x_27 (0 : Int32)) _ _ _ ⟨by simp only [if_neg c_41], hP, hD, hS, hl⟩
    obtain ⟨u_39, rfl⟩ : ∃ z, z = v9 := ⟨_, rfl⟩
    obtain ⟨eu_39, hP, hD, hS, hl⟩ := hG
    have ok_39 : okV u_39 := by rw [eu_39]; exact (okV_iteD (fun c_39 => ok_4) (fun c_39 => (ov_flags ok_4)))
    refine lv_aload_n hx hb d_D_divides_182 rfl (lv_at hl 0 rfl) ?_
    refine lv_iload_n hx hb d_D_divides_183 rfl (lv_at hl 1 rfl) ?_
    refine lv_aload_n hx hb d_D_divides_184 rfl (lv_at hl 0 rfl) ?_
    refine va_get (D := D) (ci := 6) (v := .int (u_39.1 6)) (C := "WindowMachineModel") (T := T_D) (N := 31) hx hb ht zi_D hown hK hP 0 rfl rfl 14 (by decide) (ht _ zw_868) (fun _ h9 => h9) rfl d_D_divides_185 ?_
    refine lv_lload hx hb d_D_divides_188 (lv_at hl 7 rfl) ?_
    refine lv_l2i (v := x_32.toInt32) hx hb d_D_divides_190 rfl ?_
    refine zc_v (w2 := fun u9 => wD h c u9) (va_runV (As := [.int p0, .int (u_39.1 6), .int x_32.toInt32]) (rest := []) ⟨hx, hb, hml, hown, ht⟩ (mt_D_gives l D h c H.size u_39 p0 (u_39.1 6) x_32.toInt32 hr9 (ok_39).1) (cwV 3 ht (zgV zw_990 zw_992 zs_57 zw_7 zw_993) rfl rfl rfl kd_D_gives ⟨Nat.le_of_ble_eq_true rfl, Nat.le_of_ble_eq_true rfl⟩) ⟨zw_blind zw_tt, va_recv (hK.sub (tys' := [(c 21, .long), (c 22, .int), (c 23, .int), (c 24, .int), (c 25, .int), (c 26, .int), (c 27, .int), (c 28, .int)]) [0, 1, 2, 3, 4, 5, 6, 7] rfl) (hP.sub (ws' := wD h c u_39) [0, 1, 2, 3, 4, 5, 6, 7, 8] rfl) (ci := 6) (q0 := 0) rfl rfl, zw_go (hP.sub (ws' := wD h c u_39) [0, 1, 2, 3, 4, 5, 6, 7, 8] rfl) (hD.sub (ws' := wD h c u_39) [0, 1, 2, 3, 4, 5, 6, 7, 8] (by decide) rfl) (hK.sub (tys' := [(c 21, .long), (c 22, .int), (c 23, .int), (c 24, .int), (c 25, .int), (c 26, .int), (c 27, .int), (c 28, .int)]) [0, 1, 2, 3, 4, 5, 6, 7] rfl) (fun _ _ _ => trivial)⟩ rfl rfl hl.1 rfl (lv_room (Nat.le_of_ble_eq_true rfl)) d_D_divides_191 ⟨Nat.le_of_ble_eq_true rfl, Nat.le_of_ble_eq_true rfl⟩) hP hD hS hA [0, 1, 2, 3, 4, 5, 6, 7, 8] [] [0, 1, 2, 3, 4, 5, 6, 7, 8] rfl rfl (by decide) (by decide) (by decide) (fun _ => rfl) (fun u_43 H locs hw hP hD hS => ?_)
    have eu_43 := hw
    have ok_43 : okV u_43 := by rw [eu_43]; exact (ov_gives ok_39)
    exact zl_v (u := u_43) hx hb hr hlocks hS hP hD (by simp only [m_divides, ← ex_1, ← eu_4, ← er_6, ← ex_7, ← ex_23, ← ex_27, ← ex_32, ← eu_39, ← eu_43]; try simp only [if_pos c_5, if_neg c_8]) d_D_divides_194
  exact zl_v (u := u_4) hx hb hr hlocks hS hP hD (by simp only [m_divides, ← ex_1, ← eu_4]; try simp only [if_neg c_5]) d_D_divides_22
