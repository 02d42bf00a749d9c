theorem d_D_fails_0 : decode c_D_fails 0 = .ok (.iload_n 1, 1) := by decide +kernel
theorem d_D_fails_1 : decode c_D_fails 1 = .ok (.ifCond .eq 15, 3) := by decide +kernel
theorem d_D_fails_4 : decode c_D_fails 4 = .ok (.aload_n 0, 1) := by decide +kernel
theorem d_D_fails_5 : decode c_D_fails 5 = .ok (.getfield 228, 3) := by decide +kernel
theorem d_D_fails_8 : decode c_D_fails 8 = .ok (.ifCond .ne 8, 3) := by decide +kernel
theorem d_D_fails_11 : decode c_D_fails 11 = .ok (.aload_n 0, 1) := by decide +kernel
theorem d_D_fails_12 : decode c_D_fails 12 = .ok (.iload_n 2, 1) := by decide +kernel
theorem d_D_fails_13 : decode c_D_fails 13 = .ok (.putfield 228, 3) := by decide +kernel
theorem d_D_fails_16 : decode c_D_fails 16 = .ok (.aload_n 0, 1) := by decide +kernel
theorem d_D_fails_17 : decode c_D_fails 17 = .ok (.getfield 228, 3) := by decide +kernel
theorem d_D_fails_20 : decode c_D_fails 20 = .ok (.ifCond .eq 7, 3) := by decide +kernel
theorem d_D_fails_23 : decode c_D_fails 23 = .ok (.iconst 1, 1) := by decide +kernel
theorem d_D_fails_24 : decode c_D_fails 24 = .ok (.goto 4, 3) := by decide +kernel
theorem d_D_fails_27 : decode c_D_fails 27 = .ok (.iconst 0, 1) := by decide +kernel
theorem d_D_fails_28 : decode c_D_fails 28 = .ok (.ireturn, 1) := by decide +kernel
theorem kd_D_fails : (y_D_fails).cls = "WindowMachineModel" ∧ (y_D_fails).cls ≠ "java/lang/invoke/MethodHandle" ∧ (y_D_fails).cls ≠ "java/lang/invoke/VarHandle" ∧ (parseMethodDescriptor (y_D_fails).desc).map (fun d => d.parameters.length) = some 2 := by decide +kernel
def m_fails (st : SD) (p0 : Int32) (p1 : Int32) : Int32 × SD := (let u_1 := (if p0 = (0 : Int32) then st else (if (st.1 0) = (0 : Int32) then (upd st.1 0 p1, st.2.1, st.2.2.1, st.2.2.2.1, st.2.2.2.2.1, st.2.2.2.2.2) else st)); (let x_5 := (if (u_1.1 0) = (0 : Int32) then (0 : Int32) else (1 : Int32)); (x_5, u_1)))
set_option maxHeartbeats 4000000 in
set_option maxRecDepth 100000 in
theorem mt_D_fails (l : Launch) (D : va_G) (h : Nat → Nat) (c : Nat → ClassId) (sz : Nat) (st : SD) (p0 : Int32) (p1 : Int32) : Met l y_D_fails w_D_fails ({ frames := 0, cells := 0, slots := 0, locals := 0 }) (va_Pc [.ref (h 20), .int p0, .int p1] (zw_pre D vwCl [(c 21, .long), (c 22, .int), (c 23, .int), (c 24, .int), (c 25, .int), (c 26, .int), (c 27, .int), (c 28, .int)] sz (wD h c st) (fun _ => True))) (va_Qi (fun r (u : SD) => r = (m_fails st p0 p1).1 ∧ u = (m_fails st p0 p1).2) (fun u t => zw_at D vwCl (va_A (wD h c st) sz) ((fun (u : SD) => wD h c u) u) t) (va_A (wD h c st) sz)) 0 0 (va_A (wD h c st) sz) := by
  refine zm (Qf := fun A => va_Qi (fun r (u : SD) => r = (m_fails st p0 p1).1 ∧ u = (m_fails st p0 p1).2) (fun u t => zw_at D vwCl A ((fun (u : SD) => wD h c u) u) t) A) (Zf := fun _ _ => True) (cc := c_D_fails) (nL := 3) (ret := (some .boolean)) (by decide) rfl (Nat.le_of_ble_eq_true rfl) ?_
  intro p e s m below meth c9 A H locs ls hx hb hml hown hts hr hlocks hA hK hP hD hS hZ hl
  have hl : lv_has ls 3 [(0, .ref (h 20)), (1, .int p0), (2, .int p1)] := hl
  have ht : ∀ w9 ∈ zT, w9.before _ s = true := fun w9 h9 => hts w9 (List.mem_cons_of_mem _ h9)
  refine lv_iload_n hx hb d_D_fails_0 rfl (lv_at hl 1 rfl) ?_
  refine zcut (X := SD) (G := fun v9 H locs ls => v9 = (if p0 = (0 : Int32) then st else (if (st.1 0) = (0 : Int32) then (upd st.1 0 p1, st.2.1, st.2.2.1, st.2.2.2.1, st.2.2.2.2.1, st.2.2.2.2.2) else st)) ∧ va_P D vwCl (wD h c v9) H ∧ va_D A (wD h c v9) ∧ va_S A s.heap H locs ∧ lv_has ls 3 [(0, .ref (h 20)), (1, .int p0), (2, .int p1)]) (fr := fun v9 ls => F0 m 16 ls []) (fun J_2 => ?_) (fun v9 H locs ls hG => ?_)
  · refine lv_if_eq (tgt := 16) hx hb d_D_fails_1 (by decide) (fun c_3 => ?_) (fun c_3 => ?_)
    · exact J_2 st _ _ _ ⟨by simp only [if_pos c_3], hP, hD, hS, hl⟩
    refine lv_aload_n hx hb d_D_fails_4 rfl (lv_at hl 0 rfl) ?_
    refine va_get (D := D) (ci := 6) (v := .int (st.1 0)) (C := "WindowMachineModel") (T := T_D) (N := 31) hx hb ht zi_D hown hK hP 0 rfl rfl 3 (by decide) (ht _ zw_857) (fun _ h9 => h9) rfl d_D_fails_5 ?_
    refine lv_if_ne (tgt := 16) hx hb d_D_fails_8 (by decide) (fun c_4 => ?_) (fun c_4 => ?_)
    · exact J_2 st _ _ _ ⟨by simp only [if_neg c_3, if_neg c_4], hP, hD, hS, hl⟩
    refine lv_aload_n hx hb d_D_fails_11 rfl (lv_at hl 0 rfl) ?_
    refine lv_iload_n hx hb d_D_fails_12 rfl (lv_at hl 2 rfl) ?_
    refine va_put (D := D) (ci := 6) (v := .int p1) (ty := .int) (C := "WindowMachineModel") (T := T_D) (N := 31) hx hb ht zi_D ty_D tyok_D nm_D hown hK hP hD hS 0 rfl rfl 3 (by decide) (ht _ zw_857) (fun _ h9 => h9) rfl (by decide +kernel) rfl rfl (Nat.le_of_ble_eq_true rfl) d_D_fails_13 (fun H locs hP hD hS => ?_)
    have hP : va_P D vwCl (wD h c (upd st.1 0 p1, st.2.1, st.2.2.1, st.2.2.2.1, st.2.2.2.2.1, st.2.2.2.2.2)) H := hP
    have hD : va_D A (wD h c (upd st.1 0 p1, st.2.1, st.2.2.1, st.2.2.2.1, st.2.2.2.2.1, st.2.2.2.2.2)) := hD
    exact J_2 (upd st.1 0 p1, st.2.1, st.2.2.1, st.2.2.2.1, st.2.2.2.2.1, st.2.2.2.2.2) _ _ _ ⟨by simp only [if_neg c_3, if_pos c_4], hP, hD, hS, hl⟩
  obtain ⟨u_1, rfl⟩ : ∃ z, z = v9 := ⟨_, rfl⟩
  obtain ⟨eu_1, hP, hD, hS, hl⟩ := hG
  refine lv_aload_n hx hb d_D_fails_16 rfl (lv_at hl 0 rfl) ?_
  refine va_get (D := D) (ci := 6) (v := .int (u_1.1 0)) (C := "WindowMachineModel") (T := T_D) (N := 31) hx hb ht zi_D hown hK hP 0 rfl rfl 3 (by decide) (ht _ zw_857) (fun _ h9 => h9) rfl d_D_fails_17 ?_
  refine zcut (X := Int32) (G := fun v9 H locs ls => v9 = (if (u_1.1 0) = (0 : Int32) then (0 : Int32) else (1 : Int32)) ∧ va_P D vwCl (wD h c u_1) H ∧ va_D A (wD h c u_1) ∧ va_S A s.heap H locs ∧ lv_has ls 3 [(0, .ref (h 20)), (1, .int p0), (2, .int p1)]) (fr := fun v9 ls => F0 m 28 ls [.int v9]) (fun J_6 => ?_) (fun v9 H locs ls hG => ?_)
  · refine lv_if_eq (tgt := 27) hx hb d_D_fails_20 (by decide) (fun c_7 => ?_) (fun c_7 => ?_)
    · refine lv_iconst (v := (0 : Int32)) hx hb d_D_fails_27 (by decide) ?_
      exact J_6 (0 : Int32) _ _ _ ⟨by simp only [if_pos c_7], hP, hD, hS, hl⟩
    refine lv_iconst (v := (1 : Int32)) hx hb d_D_fails_23 (by decide) ?_
    refine lv_goto (tgt := 28) hx hb d_D_fails_24 (by decide) ?_
    exact J_6 (1 : Int32) _ _ _ ⟨by simp only [if_neg c_7], hP, hD, hS, hl⟩
  obtain ⟨x_5, rfl⟩ : ∃ z, z = v9 := ⟨_, rfl⟩
  obtain ⟨ex_5, hP, hD, hS, hl⟩ := hG
  have zbx_5 : zB x_5 := by rw [ex_5]; repeat' first | exact zB0 | exact zB1 | assumption | apply zB_ite
  exact zl_z (u := u_1) hx hb hr (zbx_5).n hlocks hS hP hD (⟨by simp only [m_fails, ← eu_1, ← ex_5], by simp only [m_fails, ← eu_1, ← ex_5]⟩) d_D_fails_28
theorem d_D_traps_0 : decode c_D_traps 0 = .ok (.iload_n 1, 1) := by decide +kernel
theorem d_D_traps_1 : decode c_D_traps 1 = .ok (.ifCond .eq 15, 3) := by decide +kernel
theorem d_D_traps_4 : decode c_D_traps 4 = .ok (.aload_n 0, 1) := by decide +kernel
theorem d_D_traps_5 : decode c_D_traps 5 = .ok (.getfield 312, 3) := by decide +kernel
theorem d_D_traps_8 : decode c_D_traps 8 = .ok (.ifCond .ge 8, 3) := by decide +kernel
theorem d_D_traps_11 : decode c_D_traps 11 = .ok (.aload_n 0, 1) := by decide +kernel
theorem d_D_traps_12 : decode c_D_traps 12 = .ok (.iload_n 2, 1) := by decide +kernel
theorem d_D_traps_13 : decode c_D_traps 13 = .ok (.putfield 312, 3) := by decide +kernel
theorem d_D_traps_16 : decode c_D_traps 16 = .ok (.return_, 1) := by decide +kernel
theorem kd_D_traps : (y_D_traps).cls = "WindowMachineModel" ∧ (y_D_traps).cls ≠ "java/lang/invoke/MethodHandle" ∧ (y_D_traps).cls ≠ "java/lang/invoke/VarHandle" ∧ (parseMethodDescriptor (y_D_traps).desc).map (fun d => d.parameters.length) = some 2 := by decide +kernel
def m_traps (st : SD) (p0 : Int32) (p1 : Int32) : SD := (let u_1 := (if p0 = (0 : Int32) then st else (if (0 : Int32) ≤ (st.1 21) then st else (upd st.1 21 p1, st.2.1, st.2.2.1, st.2.2.2.1, st.2.2.2.2.1, st.2.2.2.2.2))); u_1)
set_option maxHeartbeats 4000000 in
set_option maxRecDepth 100000 in
theorem mt_D_traps (l : Launch) (D : va_G) (h : Nat → Nat) (c : Nat → ClassId) (sz : Nat) (st : SD) (p0 : Int32) (p1 : Int32) : Met l y_D_traps w_D_traps ({ frames := 0, cells := 0, slots := 0, locals := 0 }) (va_Pc [.ref (h 20), .int p0, .int p1] (zw_pre D vwCl [(c 21, .long), (c 22, .int), (c 23, .int), (c 24, .int), (c 25, .int), (c 26, .int), (c 27, .int), (c 28, .int)] sz (wD h c st) (fun _ => True))) (va_Qv (fun (u : SD) => u = m_traps st p0 p1) (fun u t => zw_at D vwCl (va_A (wD h c st) sz) ((fun (u : SD) => wD h c u) u) t) (va_A (wD h c st) sz)) 0 0 (va_A (wD h c st) sz) := by
  refine zm (Qf := fun A => va_Qv (fun (u : SD) => u = m_traps st p0 p1) (fun u t => zw_at D vwCl A ((fun (u : SD) => wD h c u) u) t) A) (Zf := fun _ _ => True) (cc := c_D_traps) (nL := 3) (ret := none) (by decide) rfl (Nat.le_of_ble_eq_true rfl) ?_
  intro p e s m below meth c9 A H locs ls hx hb hml hown hts hr hlocks hA hK hP hD hS hZ hl
  have hl : lv_has ls 3 [(0, .ref (h 20)), (1, .int p0), (2, .int p1)] := hl
  have ht : ∀ w9 ∈ zT, w9.before _ s = true := fun w9 h9 => hts w9 (List.mem_cons_of_mem _ h9)
  refine lv_iload_n hx hb d_D_traps_0 rfl (lv_at hl 1 rfl) ?_
  refine zcut (X := SD) (G := fun v9 H locs ls => v9 = (if p0 = (0 : Int32) then st else (if (0 : Int32) ≤ (st.1 21) then st else (upd st.1 21 p1, st.2.1, st.2.2.1, st.2.2.2.1, st.2.2.2.2.1, st.2.2.2.2.2))) ∧ va_P D vwCl (wD h c v9) H ∧ va_D A (wD h c v9) ∧ va_S A s.heap H locs ∧ lv_has ls 3 [(0, .ref (h 20)), (1, .int p0), (2, .int p1)]) (fr := fun v9 ls => F0 m 16 ls []) (fun J_2 => ?_) (fun v9 H locs ls hG => ?_)
  · refine lv_if_eq (tgt := 16) hx hb d_D_traps_1 (by decide) (fun c_3 => ?_) (fun c_3 => ?_)
    · exact J_2 st _ _ _ ⟨by simp only [if_pos c_3], hP, hD, hS, hl⟩
    refine lv_aload_n hx hb d_D_traps_4 rfl (lv_at hl 0 rfl) ?_
    refine va_get (D := D) (ci := 6) (v := .int (st.1 21)) (C := "WindowMachineModel") (T := T_D) (N := 31) hx hb ht zi_D hown hK hP 0 rfl rfl 29 (by decide) (ht _ zw_883) (fun _ h9 => h9) rfl d_D_traps_5 ?_
    refine lv_if_ge (tgt := 16) hx hb d_D_traps_8 (by decide) (fun c_4 => ?_) (fun c_4 => ?_)
    · exact J_2 st _ _ _ ⟨by simp only [if_neg c_3, if_pos c_4], hP, hD, hS, hl⟩
    refine lv_aload_n hx hb d_D_traps_11 rfl (lv_at hl 0 rfl) ?_
    refine lv_iload_n hx hb d_D_traps_12 rfl (lv_at hl 2 rfl) ?_
    refine va_put (D := D) (ci := 6) (v := .int p1) (ty := .int) (C := "WindowMachineModel") (T := T_D) (N := 31) hx hb ht zi_D ty_D tyok_D nm_D hown hK hP hD hS 0 rfl rfl 29 (by decide) (ht _ zw_883) (fun _ h9 => h9) rfl (by decide +kernel) rfl rfl (Nat.le_of_ble_eq_true rfl) d_D_traps_13 (fun H locs hP hD hS => ?_)
    have hP : va_P D vwCl (wD h c (upd st.1 21 p1, st.2.1, st.2.2.1, st.2.2.2.1, st.2.2.2.2.1, st.2.2.2.2.2)) H := hP
    have hD : va_D A (wD h c (upd st.1 21 p1, st.2.1, st.2.2.1, st.2.2.2.1, st.2.2.2.2.1, st.2.2.2.2.2)) := hD
    exact J_2 (upd st.1 21 p1, st.2.1, st.2.2.1, st.2.2.2.1, st.2.2.2.2.1, st.2.2.2.2.2) _ _ _ ⟨by simp only [if_neg c_3, if_neg c_4], hP, hD, hS, hl⟩
  obtain ⟨u_1, rfl⟩ : ∃ z, z = v9 := ⟨_, rfl⟩
  obtain ⟨eu_1, hP, hD, hS, hl⟩ := hG
  exact zl_v (u := u_1) hx hb hr hlocks hS hP hD (by simp only [m_traps, ← eu_1]) d_D_traps_16
theorem d_D_wrong_0 : decode c_D_wrong 0 = .ok (.aload_n 0, 1) := by decide +kernel
theorem d_D_wrong_1 : decode c_D_wrong 1 = .ok (.getfield 202, 3) := by decide +kernel
theorem d_D_wrong_4 : decode c_D_wrong 4 = .ok (.ifCond .ge 8, 3) := by decide +kernel
theorem d_D_wrong_7 : decode c_D_wrong 7 = .ok (.aload_n 0, 1) := by decide +kernel
theorem d_D_wrong_8 : decode c_D_wrong 8 = .ok (.iload_n 1, 1) := by decide +kernel
theorem d_D_wrong_9 : decode c_D_wrong 9 = .ok (.putfield 202, 3) := by decide +kernel
theorem d_D_wrong_12 : decode c_D_wrong 12 = .ok (.return_, 1) := by decide +kernel
theorem kd_D_wrong : (y_D_wrong).cls = "WindowMachineModel" ∧ (y_D_wrong).cls ≠ "java/lang/invoke/MethodHandle" ∧ (y_D_wrong).cls ≠ "java/lang/invoke/VarHandle" ∧ (parseMethodDescriptor (y_D_wrong).desc).map (fun d => d.parameters.length) = some 1 := by decide +kernel
def m_wrong (st : SD) (p0 : Int32) : SD := (let u_1 := (if (0 : Int32) ≤ (st.1 2) then st else (upd st.1 2 p0, st.2.1, st.2.2.1, st.2.2.2.1, st.2.2.2.2.1, st.2.2.2.2.2)); u_1)
set_option maxHeartbeats 4000000 in
set_option maxRecDepth 100000 in
theorem mt_D_wrong (l : Launch) (D : va_G) (h : Nat → Nat) (c : Nat → ClassId) (sz : Nat) (st : SD) (p0 : Int32) : Met l y_D_wrong w_D_wrong ({ frames := 0, cells := 0, slots := 0, locals := 0 }) (va_Pc [.ref (h 20), .int p0] (zw_pre D vwCl [(c 21, .long), (c 22, .int), (c 23, .int), (c 24, .int), (c 25, .int), (c 26, .int), (c 27, .int), (c 28, .int)] sz (wD h c st) (fun _ => True))) (va_Qv (fun (u : SD) => u = m_wrong st p0) (fun u t => zw_at D vwCl (va_A (wD h c st) sz) ((fun (u : SD) => wD h c u) u) t) (va_A (wD h c st) sz)) 0 0 (va_A (wD h c st) sz) := by
  refine zm (Qf := fun A => va_Qv (fun (u : SD) => u = m_wrong st p0) (fun u t => zw_at D vwCl A ((fun (u : SD) => wD h c u) u) t) A) (Zf := fun _ _ => True) (cc := c_D_wrong) (nL := 2) (ret := none) (by decide) rfl (Nat.le_of_ble_eq_true rfl) ?_
  intro p e s m below meth c9 A H locs ls hx hb hml hown hts hr hlocks hA hK hP hD hS hZ hl
  have hl : lv_has ls 2 [(0, .ref (h 20)), (1, .int p0)] := hl
  have ht : ∀ w9 ∈ zT, w9.before _ s = true := fun w9 h9 => hts w9 (List.mem_cons_of_mem _ h9)
  refine lv_aload_n hx hb d_D_wrong_0 rfl (lv_at hl 0 rfl) ?_
  refine va_get (D := D) (ci := 6) (v := .int (st.1 2)) (C := "WindowMachineModel") (T := T_D) (N := 31) hx hb ht zi_D hown hK hP 0 rfl rfl 5 (by decide) (ht _ zw_859) (fun _ h9 => h9) rfl d_D_wrong_1 ?_
  refine zcut (X := SD) (G := fun v9 H locs ls => v9 = (if (0 : Int32) ≤ (st.1 2) then st else (upd st.1 2 p0, st.2.1, st.2.2.1, st.2.2.2.1, st.2.2.2.2.1, st.2.2.2.2.2)) ∧ va_P D vwCl (wD h c v9) H ∧ va_D A (wD h c v9) ∧ va_S A s.heap H locs ∧ lv_has ls 2 [(0, .ref (h 20)), (1, .int p0)]) (fr := fun v9 ls => F0 m 12 ls []) (fun J_2 => ?_) (fun v9 H locs ls hG => ?_)
  · refine lv_if_ge (tgt := 12) hx hb d_D_wrong_4 (by decide) (fun c_3 => ?_) (fun c_3 => ?_)
    · exact J_2 st _ _ _ ⟨by simp only [if_pos c_3], hP, hD, hS, hl⟩
    refine lv_aload_n hx hb d_D_wrong_7 rfl (lv_at hl 0 rfl) ?_
    refine lv_iload_n hx hb d_D_wrong_8 rfl (lv_at hl 1 rfl) ?_
    refine va_put (D := D) (ci := 6) (v := .int p0) (ty := .int) (C := "WindowMachineModel") (T := T_D) (N := 31) hx hb ht zi_D ty_D tyok_D nm_D hown hK hP hD hS 0 rfl rfl 5 (by decide) (ht _ zw_859) (fun _ h9 => h9) rfl (by decide +kernel) rfl rfl (Nat.le_of_ble_eq_true rfl) d_D_wrong_9 (fun H locs hP hD hS => ?_)
    have hP : va_P D vwCl (wD h c (upd st.1 2 p0, st.2.1, st.2.2.1, st.2.2.2.1, st.2.2.2.2.1, st.2.2.2.2.2)) H := hP
    have hD : va_D A (wD h c (upd st.1 2 p0, st.2.1, st.2.2.1, st.2.2.2.1, st.2.2.2.2.1, st.2.2.2.2.2)) := hD
    exact J_2 (upd st.1 2 p0, st.2.1, st.2.2.1, st.2.2.2.1, st.2.2.2.2.1, st.2.2.2.2.2) _ _ _ ⟨by simp only [if_neg c_3], hP, hD, hS, hl⟩
  obtain ⟨u_1, rfl⟩ : ∃ z, z = v9 := ⟨_, rfl⟩
  obtain ⟨eu_1, hP, hD, hS, hl⟩ := hG
  exact zl_v (u := u_1) hx hb hr hlocks hS hP hD (by simp only [m_wrong, ← eu_1]) d_D_wrong_12
