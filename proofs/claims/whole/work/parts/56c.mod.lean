theorem d_D_either_0 : decode c_D_either 0 = .ok (.aload_n 0, 1) := by decide +kernel
theorem d_D_either_1 : decode c_D_either 1 = .ok (.invokevirtual 416, 3) := by decide +kernel
theorem d_D_either_4 : decode c_D_either 4 = .ok (.bipush 37, 2) := by decide +kernel
theorem d_D_either_6 : decode c_D_either 6 = .ok (.if_icmp .ne 10, 3) := by decide +kernel
theorem d_D_either_9 : decode c_D_either 9 = .ok (.aload_n 0, 1) := by decide +kernel
theorem d_D_either_10 : decode c_D_either 10 = .ok (.invokevirtual 435, 3) := by decide +kernel
theorem d_D_either_13 : decode c_D_either 13 = .ok (.goto 21, 3) := by decide +kernel
theorem d_D_either_16 : decode c_D_either 16 = .ok (.sipush 8192, 3) := by decide +kernel
theorem d_D_either_19 : decode c_D_either 19 = .ok (.aload_n 0, 1) := by decide +kernel
theorem d_D_either_20 : decode c_D_either 20 = .ok (.ldc2_w 438, 3) := by decide +kernel
theorem d_D_either_23 : decode c_D_either 23 = .ok (.ldc2_w 440, 3) := by decide +kernel
theorem d_D_either_26 : decode c_D_either 26 = .ok (.invokevirtual 442, 3) := by decide +kernel
theorem d_D_either_29 : decode c_D_either 29 = .ok (.sipush 8191, 3) := by decide +kernel
theorem d_D_either_32 : decode c_D_either 32 = .ok (.iand, 1) := by decide +kernel
theorem d_D_either_33 : decode c_D_either 33 = .ok (.ior, 1) := by decide +kernel
theorem d_D_either_34 : decode c_D_either 34 = .ok (.ireturn, 1) := by decide +kernel
theorem kd_D_either : (y_D_either).cls = "WindowMachineModel" ∧ (y_D_either).cls ≠ "java/lang/invoke/MethodHandle" ∧ (y_D_either).cls ≠ "java/lang/invoke/VarHandle" ∧ (parseMethodDescriptor (y_D_either).desc).map (fun d => d.parameters.length) = some 0 := by decide +kernel
def m_either (st : SD) : Int32 × SD := (let r_1 := m_here st; (if r_1 = (37 : Int32) then (let r_4 := (m_named st).1; (let u_4 := (m_named st).2; (r_4, u_4))) else (let r_3 := (m_number st (-4096 : Int64) (4095 : Int64)).1; (let u_3 := (m_number st (-4096 : Int64) (4095 : Int64)).2; ((8192 : Int32) ||| (r_3 &&& (8191 : Int32)), u_3)))))
set_option maxHeartbeats 4000000 in
set_option maxRecDepth 100000 in
theorem mt_D_either (l : Launch) (D : va_G) (h : Nat → Nat) (c : Nat → ClassId) (sz : Nat) (st : SD) (k9 : Nat) (hk : k9 < 1850) (hL : okL k9 st) : Met l y_D_either w_D_either ({ frames := 3, cells := 0, slots := 0, locals := 74 }) (va_Pc [.ref (h 20)] (zw_pre D vwCl [(c 21, .long), (c 22, .int), (c 23, .int), (c 24, .int), (c 25, .int), (c 26, .int), (c 27, .int), (c 28, .int)] sz (wD h c st) (fun _ => True))) (va_Qi (fun r (u : SD) => r = (m_either st).1 ∧ u = (m_either st).2) (fun u t => zw_at D vwCl (va_A (wD h c st) sz) ((fun (u : SD) => wD h c u) u) t) (va_A (wD h c st) sz)) 0 0 (va_A (wD h c st) sz) := by
  refine zm (Qf := fun A => va_Qi (fun r (u : SD) => r = (m_either st).1 ∧ u = (m_either st).2) (fun u t => zw_at D vwCl A ((fun (u : SD) => wD h c u) u) t) A) (Zf := fun _ _ => True) (cc := c_D_either) (nL := 1) (ret := (some .int)) (by decide) rfl (Nat.le_of_ble_eq_true rfl) ?_
  intro p e s m below meth c9 A H locs ls hx hb hml hown hts hr hlocks hA hK hP hD hS hZ hl
  have hl : lv_has ls 1 [(0, .ref (h 20))] := hl
  have ht : ∀ w9 ∈ zT, w9.before _ s = true := fun w9 h9 => hts w9 (List.mem_cons_of_mem _ h9)
  refine lv_aload_n hx hb d_D_either_0 rfl (lv_at hl 0 rfl) ?_
  refine zc_i (w2 := fun _ => wD h c st) (va_runV (As := []) (rest := []) ⟨hx, hb, hml, hown, ht⟩ (mt_D_here l D h c H.size st (olh hL)) (cwV 0 ht (zgV zw_1122 zw_1124 zs_77 zw_7 zw_1125) rfl rfl rfl kd_D_here ⟨Nat.le_of_ble_eq_true rfl, Nat.le_of_ble_eq_true rfl⟩) ⟨zw_blind zw_tt, va_recv (hK.sub (tys' := [(c 21, .long), (c 22, .int), (c 23, .int), (c 24, .int), (c 25, .int), (c 26, .int), (c 27, .int), (c 28, .int)]) [0, 1, 2, 3, 4, 5, 6, 7] rfl) (hP.sub (ws' := wD h c st) [0, 1, 2, 3, 4, 5, 6, 7, 8] rfl) (ci := 6) (q0 := 0) rfl rfl, zw_go (hP.sub (ws' := wD h c st) [0, 1, 2, 3, 4, 5, 6, 7, 8] rfl) (hD.sub (ws' := wD h c st) [0, 1, 2, 3, 4, 5, 6, 7, 8] (by decide) rfl) (hK.sub (tys' := [(c 21, .long), (c 22, .int), (c 23, .int), (c 24, .int), (c 25, .int), (c 26, .int), (c 27, .int), (c 28, .int)]) [0, 1, 2, 3, 4, 5, 6, 7] rfl) (fun _ _ _ => trivial)⟩ rfl rfl hl.1 rfl (lv_room (Nat.le_of_ble_eq_true rfl)) d_D_either_1 ⟨Nat.le_of_ble_eq_true rfl, Nat.le_of_ble_eq_true rfl⟩) hP hD hS hA [0, 1, 2, 3, 4, 5, 6, 7, 8] [] [0, 1, 2, 3, 4, 5, 6, 7, 8] rfl rfl (by decide) (by decide) (by decide) (fun _ => rfl) (fun r_1 _ H locs hw hP hD hS => ?_)
  have er_1 := hw
  refine lv_bipush (v := (37 : Int32)) hx hb d_D_either_4 (by decide) ?_
  refine lv_icmp_ne (tgt := 16) hx hb d_D_either_6 (by decide) (fun c_2 => ?_) (fun c_2 => ?_)
  · refine lv_sipush (v := (8192 : Int32)) hx hb d_D_either_16 (by decide) ?_
    refine lv_aload_n hx hb d_D_either_19 rfl (lv_at hl 0 rfl) ?_
    refine lv_ldc2 (v := (-4096 : Int64)) hx hb hown (ht _ zw_1175) d_D_either_20 ?_
    refine lv_ldc2 (v := (4095 : Int64)) hx hb hown (ht _ zw_1176) d_D_either_23 ?_
    refine zc_i (w2 := fun u9 => wD h c u9) (va_runV (As := [.long (-4096 : Int64), .long (4095 : Int64)]) (rest := [.int (8192 : Int32)]) ⟨hx, hb, hml, hown, ht⟩ (mt_D_number l D h c H.size st (-4096 : Int64) (4095 : Int64) _ (by omega) hL) (cwV 2 ht (zgV zw_1127 zw_1129 zs_78 zw_7 zw_1130) rfl rfl rfl kd_D_number ⟨Nat.le_of_ble_eq_true rfl, Nat.le_of_ble_eq_true rfl⟩) ⟨zw_blind zw_tt, va_recv (hK.sub (tys' := [(c 21, .long), (c 22, .int), (c 23, .int), (c 24, .int), (c 25, .int), (c 26, .int), (c 27, .int), (c 28, .int)]) [0, 1, 2, 3, 4, 5, 6, 7] rfl) (hP.sub (ws' := wD h c st) [0, 1, 2, 3, 4, 5, 6, 7, 8] rfl) (ci := 6) (q0 := 0) rfl rfl, zw_go (hP.sub (ws' := wD h c st) [0, 1, 2, 3, 4, 5, 6, 7, 8] rfl) (hD.sub (ws' := wD h c st) [0, 1, 2, 3, 4, 5, 6, 7, 8] (by decide) rfl) (hK.sub (tys' := [(c 21, .long), (c 22, .int), (c 23, .int), (c 24, .int), (c 25, .int), (c 26, .int), (c 27, .int), (c 28, .int)]) [0, 1, 2, 3, 4, 5, 6, 7] rfl) (fun _ _ _ => trivial)⟩ rfl rfl hl.1 rfl (lv_room (Nat.le_of_ble_eq_true rfl)) d_D_either_26 ⟨Nat.le_of_ble_eq_true rfl, Nat.le_of_ble_eq_true rfl⟩) hP hD hS hA [0, 1, 2, 3, 4, 5, 6, 7, 8] [] [0, 1, 2, 3, 4, 5, 6, 7, 8] rfl rfl (by decide) (by decide) (by decide) (fun _ => rfl) (fun r_3 u_3 H locs hw hP hD hS => ?_)
    obtain ⟨er_3, eu_3⟩ := hw
    have ok_3 : okL (k9 + 13) u_3 := by rw [eu_3]; exact (ol_number (by omega) hL)
    refine lv_sipush (v := (8191 : Int32)) hx hb d_D_either_29 (by decide) ?_
    refine lv_iand hx hb d_D_either_32 ?_
    refine lv_ior hx hb d_D_either_33 ?_
    exact zl_i (u := u_3) hx hb hr hlocks hS hP hD (⟨by simp only [m_either, ← er_1, ← er_3, ← eu_3, if_neg c_2], by simp only [m_either, ← er_1, ← er_3, ← eu_3, if_neg c_2]⟩) d_D_either_34
  refine lv_aload_n hx hb d_D_either_9 rfl (lv_at hl 0 rfl) ?_
  refine zc_i (w2 := fun u9 => wD h c u9) (va_runV (As := []) (rest := []) ⟨hx, hb, hml, hown, ht⟩ (mt_D_named l D h c H.size st _ (by omega) hL) (cwV 0 ht (zgV zw_1146 zw_1148 zs_82 zw_7 zw_1149) rfl rfl rfl kd_D_named ⟨Nat.le_of_ble_eq_true rfl, Nat.le_of_ble_eq_true rfl⟩) ⟨zw_blind zw_tt, va_recv (hK.sub (tys' := [(c 21, .long), (c 22, .int), (c 23, .int), (c 24, .int), (c 25, .int), (c 26, .int), (c 27, .int), (c 28, .int)]) [0, 1, 2, 3, 4, 5, 6, 7] rfl) (hP.sub (ws' := wD h c st) [0, 1, 2, 3, 4, 5, 6, 7, 8] rfl) (ci := 6) (q0 := 0) rfl rfl, zw_go (hP.sub (ws' := wD h c st) [0, 1, 2, 3, 4, 5, 6, 7, 8] rfl) (hD.sub (ws' := wD h c st) [0, 1, 2, 3, 4, 5, 6, 7, 8] (by decide) rfl) (hK.sub (tys' := [(c 21, .long), (c 22, .int), (c 23, .int), (c 24, .int), (c 25, .int), (c 26, .int), (c 27, .int), (c 28, .int)]) [0, 1, 2, 3, 4, 5, 6, 7] rfl) (fun _ _ _ => trivial)⟩ rfl rfl hl.1 rfl (lv_room (Nat.le_of_ble_eq_true rfl)) d_D_either_10 ⟨Nat.le_of_ble_eq_true rfl, Nat.le_of_ble_eq_true rfl⟩) hP hD hS hA [0, 1, 2, 3, 4, 5, 6, 7, 8] [] [0, 1, 2, 3, 4, 5, 6, 7, 8] rfl rfl (by decide) (by decide) (by decide) (fun _ => rfl) (fun r_4 u_4 H locs hw hP hD hS => ?_)
  obtain ⟨er_4, eu_4⟩ := hw
  have ok_4 : okL (k9 + 5) u_4 := by rw [eu_4]; exact (ol_named (by omega) hL)
  refine lv_goto (tgt := 34) hx hb d_D_either_13 (by decide) ?_
  exact zl_i (u := u_4) hx hb hr hlocks hS hP hD (⟨by simp only [m_either, ← er_1, ← er_4, ← eu_4, if_pos c_2], by simp only [m_either, ← er_1, ← er_4, ← eu_4, if_pos c_2]⟩) d_D_either_34
theorem d_D_comma_0 : decode c_D_comma 0 = .ok (.aload_n 0, 1) := by decide +kernel
theorem d_D_comma_1 : decode c_D_comma 1 = .ok (.getfield 202, 3) := by decide +kernel
theorem d_D_comma_4 : decode c_D_comma 4 = .ok (.ifCond .ge 9, 3) := by decide +kernel
theorem d_D_comma_7 : decode c_D_comma 7 = .ok (.aload_n 0, 1) := by decide +kernel
theorem d_D_comma_8 : decode c_D_comma 8 = .ok (.bipush 44, 2) := by decide +kernel
theorem d_D_comma_10 : decode c_D_comma 10 = .ok (.invokevirtual 426, 3) := by decide +kernel
theorem d_D_comma_13 : decode c_D_comma 13 = .ok (.return_, 1) := by decide +kernel
theorem kd_D_comma : (y_D_comma).cls = "WindowMachineModel" ∧ (y_D_comma).cls ≠ "java/lang/invoke/MethodHandle" ∧ (y_D_comma).cls ≠ "java/lang/invoke/VarHandle" ∧ (parseMethodDescriptor (y_D_comma).desc).map (fun d => d.parameters.length) = some 0 := by decide +kernel
def m_comma (st : SD) : SD := (if (0 : Int32) ≤ (st.1 2) then st else (let u_2 := m_must st (44 : Int32); u_2))
set_option maxHeartbeats 4000000 in
set_option maxRecDepth 100000 in
theorem mt_D_comma (l : Launch) (D : va_G) (h : Nat → Nat) (c : Nat → ClassId) (sz : Nat) (st : SD) (k9 : Nat) (hk : k9 < 1850) (hL : okL k9 st) : Met l y_D_comma w_D_comma ({ frames := 2, cells := 0, slots := 0, locals := 42 }) (va_Pc [.ref (h 20)] (zw_pre D vwCl [(c 21, .long), (c 22, .int), (c 23, .int), (c 24, .int), (c 25, .int), (c 26, .int), (c 27, .int), (c 28, .int)] sz (wD h c st) (fun _ => True))) (va_Qv (fun (u : SD) => u = m_comma st) (fun u t => zw_at D vwCl (va_A (wD h c st) sz) ((fun (u : SD) => wD h c u) u) t) (va_A (wD h c st) sz)) 0 0 (va_A (wD h c st) sz) := by
  refine zm (Qf := fun A => va_Qv (fun (u : SD) => u = m_comma st) (fun u t => zw_at D vwCl A ((fun (u : SD) => wD h c u) u) t) A) (Zf := fun _ _ => True) (cc := c_D_comma) (nL := 1) (ret := none) (by decide) rfl (Nat.le_of_ble_eq_true rfl) ?_
  intro p e s m below meth c9 A H locs ls hx hb hml hown hts hr hlocks hA hK hP hD hS hZ hl
  have hl : lv_has ls 1 [(0, .ref (h 20))] := hl
  have ht : ∀ w9 ∈ zT, w9.before _ s = true := fun w9 h9 => hts w9 (List.mem_cons_of_mem _ h9)
  refine lv_aload_n hx hb d_D_comma_0 rfl (lv_at hl 0 rfl) ?_
  refine va_get (D := D) (ci := 6) (v := .int (st.1 2)) (C := "WindowMachineModel") (T := T_D) (N := 31) hx hb ht zi_D hown hK hP 0 rfl rfl 5 (by decide) (ht _ zw_859) (fun _ h9 => h9) rfl d_D_comma_1 ?_
  refine lv_if_ge (tgt := 13) hx hb d_D_comma_4 (by decide) (fun c_1 => ?_) (fun c_1 => ?_)
  · exact zl_v (u := st) hx hb hr hlocks hS hP hD (by simp only [m_comma, if_pos c_1]) d_D_comma_13
  refine lv_aload_n hx hb d_D_comma_7 rfl (lv_at hl 0 rfl) ?_
  refine lv_bipush (v := (44 : Int32)) hx hb d_D_comma_8 (by decide) ?_
  refine zc_v (w2 := fun u9 => wD h c u9) (va_runV (As := [.int (44 : Int32)]) (rest := []) ⟨hx, hb, hml, hown, ht⟩ (mt_D_must l D h c H.size st (44 : Int32) (olh hL)) (cwV 1 ht (zgV zw_1118 zw_1120 zs_76 zw_7 zw_1121) rfl rfl rfl kd_D_must ⟨Nat.le_of_ble_eq_true rfl, Nat.le_of_ble_eq_true rfl⟩) ⟨zw_blind zw_tt, va_recv (hK.sub (tys' := [(c 21, .long), (c 22, .int), (c 23, .int), (c 24, .int), (c 25, .int), (c 26, .int), (c 27, .int), (c 28, .int)]) [0, 1, 2, 3, 4, 5, 6, 7] rfl) (hP.sub (ws' := wD h c st) [0, 1, 2, 3, 4, 5, 6, 7, 8] rfl) (ci := 6) (q0 := 0) rfl rfl, zw_go (hP.sub (ws' := wD h c st) [0, 1, 2, 3, 4, 5, 6, 7, 8] rfl) (hD.sub (ws' := wD h c st) [0, 1, 2, 3, 4, 5, 6, 7, 8] (by decide) rfl) (hK.sub (tys' := [(c 21, .long), (c 22, .int), (c 23, .int), (c 24, .int), (c 25, .int), (c 26, .int), (c 27, .int), (c 28, .int)]) [0, 1, 2, 3, 4, 5, 6, 7] rfl) (fun _ _ _ => trivial)⟩ rfl rfl hl.1 rfl (lv_room (Nat.le_of_ble_eq_true rfl)) d_D_comma_10 ⟨Nat.le_of_ble_eq_true rfl, Nat.le_of_ble_eq_true rfl⟩) hP hD hS hA [0, 1, 2, 3, 4, 5, 6, 7, 8] [] [0, 1, 2, 3, 4, 5, 6, 7, 8] rfl rfl (by decide) (by decide) (by decide) (fun _ => rfl) (fun u_2 H locs hw hP hD hS => ?_)
  have eu_2 := hw
  have ok_2 : okL (k9 + 1) u_2 := by rw [eu_2]; exact (ol_must (by omega) hL)
  exact zl_v (u := u_2) hx hb hr hlocks hS hP hD (by simp only [m_comma, ← eu_2, if_neg c_1]) d_D_comma_13
theorem d_D_operand_0 : decode c_D_operand 0 = .ok (.aload_n 0, 1) := by decide +kernel
theorem d_D_operand_1 : decode c_D_operand 1 = .ok (.getfield 202, 3) := by decide +kernel
theorem d_D_operand_4 : decode c_D_operand 4 = .ok (.ifCond .ge 10, 3) := by decide +kernel
theorem d_D_operand_7 : decode c_D_operand 7 = .ok (.aload_n 0, 1) := by decide +kernel
theorem d_D_operand_8 : decode c_D_operand 8 = .ok (.invokevirtual 435, 3) := by decide +kernel
theorem d_D_operand_11 : decode c_D_operand 11 = .ok (.goto 4, 3) := by decide +kernel
theorem d_D_operand_14 : decode c_D_operand 14 = .ok (.iconst 0, 1) := by decide +kernel
theorem d_D_operand_15 : decode c_D_operand 15 = .ok (.ireturn, 1) := by decide +kernel
theorem kd_D_operand : (y_D_operand).cls = "WindowMachineModel" ∧ (y_D_operand).cls ≠ "java/lang/invoke/MethodHandle" ∧ (y_D_operand).cls ≠ "java/lang/invoke/VarHandle" ∧ (parseMethodDescriptor (y_D_operand).desc).map (fun d => d.parameters.length) = some 0 := by decide +kernel
def m_operand (st : SD) : Int32 × SD := (if (0 : Int32) ≤ (st.1 2) then ((0 : Int32), st) else (let r_2 := (m_named st).1; (let u_2 := (m_named st).2; (r_2, u_2))))
set_option maxHeartbeats 4000000 in
set_option maxRecDepth 100000 in
theorem mt_D_operand (l : Launch) (D : va_G) (h : Nat → Nat) (c : Nat → ClassId) (sz : Nat) (st : SD) (k9 : Nat) (hk : k9 < 1850) (hL : okL k9 st) : Met l y_D_operand w_D_operand ({ frames := 3, cells := 0, slots := 0, locals := 68 }) (va_Pc [.ref (h 20)] (zw_pre D vwCl [(c 21, .long), (c 22, .int), (c 23, .int), (c 24, .int), (c 25, .int), (c 26, .int), (c 27, .int), (c 28, .int)] sz (wD h c st) (fun _ => True))) (va_Qi (fun r (u : SD) => r = (m_operand st).1 ∧ u = (m_operand st).2) (fun u t => zw_at D vwCl (va_A (wD h c st) sz) ((fun (u : SD) => wD h c u) u) t) (va_A (wD h c st) sz)) 0 0 (va_A (wD h c st) sz) := by
  refine zm (Qf := fun A => va_Qi (fun r (u : SD) => r = (m_operand st).1 ∧ u = (m_operand st).2) (fun u t => zw_at D vwCl A ((fun (u : SD) => wD h c u) u) t) A) (Zf := fun _ _ => True) (cc := c_D_operand) (nL := 1) (ret := (some .int)) (by decide) rfl (Nat.le_of_ble_eq_true rfl) ?_
  intro p e s m below meth c9 A H locs ls hx hb hml hown hts hr hlocks hA hK hP hD hS hZ hl
  have hl : lv_has ls 1 [(0, .ref (h 20))] := hl
  have ht : ∀ w9 ∈ zT, w9.before _ s = true := fun w9 h9 => hts w9 (List.mem_cons_of_mem _ h9)
  refine lv_aload_n hx hb d_D_operand_0 rfl (lv_at hl 0 rfl) ?_
  refine va_get (D := D) (ci := 6) (v := .int (st.1 2)) (C := "WindowMachineModel") (T := T_D) (N := 31) hx hb ht zi_D hown hK hP 0 rfl rfl 5 (by decide) (ht _ zw_859) (fun _ h9 => h9) rfl d_D_operand_1 ?_
  refine lv_if_ge (tgt := 14) hx hb d_D_operand_4 (by decide) (fun c_1 => ?_) (fun c_1 => ?_)
  · refine lv_iconst (v := (0 : Int32)) hx hb d_D_operand_14 (by decide) ?_
    exact zl_i (u := st) hx hb hr hlocks hS hP hD (⟨by simp only [m_operand, if_pos c_1], by simp only [m_operand, if_pos c_1]⟩) d_D_operand_15
  refine lv_aload_n hx hb d_D_operand_7 rfl (lv_at hl 0 rfl) ?_
  refine zc_i (w2 := fun u9 => wD h c u9) (va_runV (As := []) (rest := []) ⟨hx, hb, hml, hown, ht⟩ (mt_D_named l D h c H.size st _ (by omega) hL) (cwV 0 ht (zgV zw_1146 zw_1148 zs_82 zw_7 zw_1149) rfl rfl rfl kd_D_named ⟨Nat.le_of_ble_eq_true rfl, Nat.le_of_ble_eq_true rfl⟩) ⟨zw_blind zw_tt, va_recv (hK.sub (tys' := [(c 21, .long), (c 22, .int), (c 23, .int), (c 24, .int), (c 25, .int), (c 26, .int), (c 27, .int), (c 28, .int)]) [0, 1, 2, 3, 4, 5, 6, 7] rfl) (hP.sub (ws' := wD h c st) [0, 1, 2, 3, 4, 5, 6, 7, 8] rfl) (ci := 6) (q0 := 0) rfl rfl, zw_go (hP.sub (ws' := wD h c st) [0, 1, 2, 3, 4, 5, 6, 7, 8] rfl) (hD.sub (ws' := wD h c st) [0, 1, 2, 3, 4, 5, 6, 7, 8] (by decide) rfl) (hK.sub (tys' := [(c 21, .long), (c 22, .int), (c 23, .int), (c 24, .int), (c 25, .int), (c 26, .int), (c 27, .int), (c 28, .int)]) [0, 1, 2, 3, 4, 5, 6, 7] rfl) (fun _ _ _ => trivial)⟩ rfl rfl hl.1 rfl (lv_room (Nat.le_of_ble_eq_true rfl)) d_D_operand_8 ⟨Nat.le_of_ble_eq_true rfl, Nat.le_of_ble_eq_true rfl⟩) hP hD hS hA [0, 1, 2, 3, 4, 5, 6, 7, 8] [] [0, 1, 2, 3, 4, 5, 6, 7, 8] rfl rfl (by decide) (by decide) (by decide) (fun _ => rfl) (fun r_2 u_2 H locs hw hP hD hS => ?_)
  obtain ⟨er_2, eu_2⟩ := hw
  have ok_2 : okL (k9 + 5) u_2 := by rw [eu_2]; exact (ol_named (by omega) hL)
  refine lv_goto (tgt := 15) hx hb d_D_operand_11 (by decide) ?_
  exact zl_i (u := u_2) hx hb hr hlocks hS hP hD (⟨by simp only [m_operand, ← er_2, ← eu_2, if_neg c_1], by simp only [m_operand, ← er_2, ← eu_2, if_neg c_1]⟩) d_D_operand_15
theorem ol_either {k : Nat} {st : SD} (hk : k < 1850) (h : okL k st) : okL (k + 13) (m_either st).2 := by
  unfold m_either
  dsimp only
  by_cases c : m_here st = (37 : Int32)
  · rw [if_pos c]
    dsimp only
    with_reducible exact ol_mono (ol_named (by omega) h) (by omega)
  · rw [if_neg c]
    dsimp only
    with_reducible exact ol_number (by omega) h
theorem ol_comma {k : Nat} {st : SD} (hk : k < 1850) (h : okL k st) : okL (k + 1) (m_comma st) := by
  unfold m_comma
  dsimp only
  exact okL_ite (ol_mono h (by omega)) (ol_must (by omega) h)
theorem ol_operand {k : Nat} {st : SD} (hk : k < 1850) (h : okL k st) : okL (k + 5) (m_operand st).2 := by
  unfold m_operand
  dsimp only
  by_cases c : (0 : Int32) ≤ st.1 2
  · rw [if_pos c]
    dsimp only
    exact ol_mono h (by omega)
  · rw [if_neg c]
    dsimp only
    with_reducible exact ol_named (by omega) h
