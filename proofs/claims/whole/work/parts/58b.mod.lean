theorem d_D_assemble_0 : decode c_D_assemble 0 = .ok (.aload_n 0, 1) := by decide +kernel
theorem d_D_assemble_1 : decode c_D_assemble 1 = .ok (.iconst 0, 1) := by decide +kernel
theorem d_D_assemble_2 : decode c_D_assemble 2 = .ok (.putfield 228, 3) := by decide +kernel
theorem d_D_assemble_5 : decode c_D_assemble 5 = .ok (.aload_n 0, 1) := by decide +kernel
theorem d_D_assemble_6 : decode c_D_assemble 6 = .ok (.iconst (-1), 1) := by decide +kernel
theorem d_D_assemble_7 : decode c_D_assemble 7 = .ok (.putfield 202, 3) := by decide +kernel
theorem d_D_assemble_10 : decode c_D_assemble 10 = .ok (.aload_n 0, 1) := by decide +kernel
theorem d_D_assemble_11 : decode c_D_assemble 11 = .ok (.invokevirtual 484, 3) := by decide +kernel
theorem d_D_assemble_14 : decode c_D_assemble 14 = .ok (.istore_n 2, 1) := by decide +kernel
theorem d_D_assemble_15 : decode c_D_assemble 15 = .ok (.aload_n 0, 1) := by decide +kernel
theorem d_D_assemble_16 : decode c_D_assemble 16 = .ok (.iconst 0, 1) := by decide +kernel
theorem d_D_assemble_17 : decode c_D_assemble 17 = .ok (.putfield 410, 3) := by decide +kernel
theorem d_D_assemble_20 : decode c_D_assemble 20 = .ok (.aload_n 0, 1) := by decide +kernel
theorem d_D_assemble_21 : decode c_D_assemble 21 = .ok (.aload_n 0, 1) := by decide +kernel
theorem d_D_assemble_22 : decode c_D_assemble 22 = .ok (.getfield 202, 3) := by decide +kernel
theorem d_D_assemble_25 : decode c_D_assemble 25 = .ok (.ifCond .lt 7, 3) := by decide +kernel
theorem d_D_assemble_28 : decode c_D_assemble 28 = .ok (.iconst 1, 1) := by decide +kernel
theorem d_D_assemble_29 : decode c_D_assemble 29 = .ok (.goto 4, 3) := by decide +kernel
theorem d_D_assemble_32 : decode c_D_assemble 32 = .ok (.iconst 0, 1) := by decide +kernel
theorem d_D_assemble_33 : decode c_D_assemble 33 = .ok (.iconst 1, 1) := by decide +kernel
theorem d_D_assemble_34 : decode c_D_assemble 34 = .ok (.invokevirtual 290, 3) := by decide +kernel
theorem d_D_assemble_37 : decode c_D_assemble 37 = .ok (.ifCond .ne 23, 3) := by decide +kernel
theorem d_D_assemble_40 : decode c_D_assemble 40 = .ok (.aload_n 0, 1) := by decide +kernel
theorem d_D_assemble_41 : decode c_D_assemble 41 = .ok (.iload_n 1, 1) := by decide +kernel
theorem d_D_assemble_42 : decode c_D_assemble 42 = .ok (.invokestatic 286, 3) := by decide +kernel
theorem d_D_assemble_45 : decode c_D_assemble 45 = .ok (.ifCond .ne 7, 3) := by decide +kernel
theorem d_D_assemble_48 : decode c_D_assemble 48 = .ok (.iconst 1, 1) := by decide +kernel
theorem d_D_assemble_49 : decode c_D_assemble 49 = .ok (.goto 4, 3) := by decide +kernel
theorem d_D_assemble_52 : decode c_D_assemble 52 = .ok (.iconst 0, 1) := by decide +kernel
theorem d_D_assemble_53 : decode c_D_assemble 53 = .ok (.iconst 2, 1) := by decide +kernel
theorem d_D_assemble_54 : decode c_D_assemble 54 = .ok (.invokevirtual 290, 3) := by decide +kernel
theorem d_D_assemble_57 : decode c_D_assemble 57 = .ok (.ifCond .eq 5, 3) := by decide +kernel
theorem d_D_assemble_60 : decode c_D_assemble 60 = .ok (.iconst 0, 1) := by decide +kernel
theorem d_D_assemble_61 : decode c_D_assemble 61 = .ok (.ireturn, 1) := by decide +kernel
theorem d_D_assemble_62 : decode c_D_assemble 62 = .ok (.aload_n 0, 1) := by decide +kernel
theorem d_D_assemble_63 : decode c_D_assemble 63 = .ok (.iload_n 1, 1) := by decide +kernel
theorem d_D_assemble_64 : decode c_D_assemble 64 = .ok (.iconst 4, 1) := by decide +kernel
theorem d_D_assemble_65 : decode c_D_assemble 65 = .ok (.iload_n 2, 1) := by decide +kernel
theorem d_D_assemble_66 : decode c_D_assemble 66 = .ok (.invokevirtual 298, 3) := by decide +kernel
theorem d_D_assemble_69 : decode c_D_assemble 69 = .ok (.iload_n 2, 1) := by decide +kernel
theorem d_D_assemble_70 : decode c_D_assemble 70 = .ok (.ireturn, 1) := by decide +kernel
theorem kd_D_assemble : (y_D_assemble).cls = "WindowMachineModel" ∧ (y_D_assemble).cls ≠ "java/lang/invoke/MethodHandle" ∧ (y_D_assemble).cls ≠ "java/lang/invoke/VarHandle" ∧ (parseMethodDescriptor (y_D_assemble).desc).map (fun d => d.parameters.length) = some 1 := by decide +kernel
def m_assemble (st : SD) (p0 : Int32) : Int32 × SD := (let r_1 := (m_assembled (upd (upd st.1 0 (0 : Int32)) 2 (-1 : Int32), st.2.1, st.2.2.1, st.2.2.2.1, st.2.2.2.2.1, st.2.2.2.2.2)).1; (let u_1 := (m_assembled (upd (upd st.1 0 (0 : Int32)) 2 (-1 : Int32), st.2.1, st.2.2.1, st.2.2.2.1, st.2.2.2.2.1, st.2.2.2.2.2)).2; (let x_2 := (if (u_1.1 2) < (0 : Int32) then (0 : Int32) else (1 : Int32)); (let r_5 := (m_fails (upd u_1.1 1 (0 : Int32), u_1.2.1, u_1.2.2.1, u_1.2.2.2.1, u_1.2.2.2.2.1, u_1.2.2.2.2.2) x_2 (1 : Int32)).1; (let u_5 := (m_fails (upd u_1.1 1 (0 : Int32), u_1.2.1, u_1.2.2.1, u_1.2.2.2.1, u_1.2.2.2.2.1, u_1.2.2.2.2.2) x_2 (1 : Int32)).2; (if r_5 = (0 : Int32) then (let r_7 := m_isWord p0; (let x_8 := (if r_7 = (0 : Int32) then (1 : Int32) else (0 : Int32)); (let r_11 := (m_fails u_5 x_8 (2 : Int32)).1; (let u_11 := (m_fails u_5 x_8 (2 : Int32)).2; (if r_11 = (0 : Int32) then (let u_13 := m_store u_11 p0 (4 : Int32) r_1; (r_1, u_13)) else ((0 : Int32), u_11)))))) else ((0 : Int32), u_5)))))))
set_option maxHeartbeats 4000000 in
set_option maxRecDepth 100000 in
theorem mt_D_assemble (l : Launch) (D : va_G) (h : Nat → Nat) (c : Nat → ClassId) (sz : Nat) (st : SD) (p0 : Int32) (hL : 0 ≤ (st.1 1).toInt ∧ (st.1 1).toInt ≤ 40) : Met l y_D_assemble w_D_assemble ({ frames := 7, cells := 0, slots := 0, locals := 169 }) (va_Pc [.ref (h 20), .int p0] (zw_pre D vwCl [(c 21, .long), (c 22, .int), (c 23, .int), (c 24, .int), (c 25, .int), (c 26, .int), (c 27, .int), (c 28, .int)] sz (wD h c st) (fun _ => True))) (va_Qi (fun r (u : SD) => r = (m_assemble st p0).1 ∧ u = (m_assemble st p0).2) (fun u t => zw_at D vwCl (va_A (wD h c st) sz) ((fun (u : SD) => wD h c u) u) t) (va_A (wD h c st) sz)) 0 0 (va_A (wD h c st) sz) := by
  refine zm (Qf := fun A => va_Qi (fun r (u : SD) => r = (m_assemble st p0).1 ∧ u = (m_assemble st p0).2) (fun u t => zw_at D vwCl A ((fun (u : SD) => wD h c u) u) t) A) (Zf := fun _ _ => True) (cc := c_D_assemble) (nL := 3) (ret := (some .int)) (by decide) rfl (Nat.le_of_ble_eq_true rfl) ?_
  intro p e s m below meth c9 A H locs ls hx hb hml hown hts hr hlocks hA hK hP hD hS hZ hl
  have hl : lv_has ls 3 [(0, .ref (h 20)), (1, .int p0)] := hl
  have ht : ∀ w9 ∈ zT, w9.before _ s = true := fun w9 h9 => hts w9 (List.mem_cons_of_mem _ h9)
  refine lv_aload_n hx hb d_D_assemble_0 rfl (lv_at hl 0 rfl) ?_
  refine lv_iconst (v := (0 : Int32)) hx hb d_D_assemble_1 (by decide) ?_
  refine va_put (D := D) (ci := 6) (v := .int (0 : Int32)) (ty := .int) (C := "WindowMachineModel") (T := T_D) (N := 31) hx hb ht zi_D ty_D tyok_D nm_D hown hK hP hD hS 0 rfl rfl 3 (by decide) (ht _ zw_857) (fun _ h9 => h9) rfl (by decide +kernel) rfl rfl (Nat.le_of_ble_eq_true rfl) d_D_assemble_2 (fun H locs hP hD hS => ?_)
  have hP : va_P D vwCl (wD h c (upd st.1 0 (0 : Int32), st.2.1, st.2.2.1, st.2.2.2.1, st.2.2.2.2.1, st.2.2.2.2.2)) H := hP
  have hD : va_D A (wD h c (upd st.1 0 (0 : Int32), st.2.1, st.2.2.1, st.2.2.2.1, st.2.2.2.2.1, st.2.2.2.2.2)) := hD
  refine lv_aload_n hx hb d_D_assemble_5 rfl (lv_at hl 0 rfl) ?_
  refine lv_iconst (v := (-1 : Int32)) hx hb d_D_assemble_6 (by decide) ?_
  refine va_put (D := D) (ci := 6) (v := .int (-1 : Int32)) (ty := .int) (C := "WindowMachineModel") (T := T_D) (N := 31) hx hb ht zi_D ty_D tyok_D nm_D hown hK hP hD hS 0 rfl rfl 5 (by decide) (ht _ zw_859) (fun _ h9 => h9) rfl (by decide +kernel) rfl rfl (Nat.le_of_ble_eq_true rfl) d_D_assemble_7 (fun H locs hP hD hS => ?_)
  have hP : va_P D vwCl (wD h c (upd (upd st.1 0 (0 : Int32)) 2 (-1 : Int32), st.2.1, st.2.2.1, st.2.2.2.1, st.2.2.2.2.1, st.2.2.2.2.2)) H := hP
  have hD : va_D A (wD h c (upd (upd st.1 0 (0 : Int32)) 2 (-1 : Int32), st.2.1, st.2.2.1, st.2.2.2.1, st.2.2.2.2.1, st.2.2.2.2.2)) := hD
  refine lv_aload_n hx hb d_D_assemble_10 rfl (lv_at hl 0 rfl) ?_
  refine zc_i (w2 := fun u9 => wD h c u9) (va_runV (As := []) (rest := []) ⟨hx, hb, hml, hown, ht⟩ (mt_D_assembled l D h c H.size (upd (upd st.1 0 (0 : Int32)) 2 (-1 : Int32), st.2.1, st.2.2.1, st.2.2.2.1, st.2.2.2.2.1, st.2.2.2.2.2) hL) (cwV 0 ht (zgV zw_1108 zw_1110 zs_74 zw_7 zw_1111) rfl rfl rfl kd_D_assembled ⟨Nat.le_of_ble_eq_true rfl, Nat.le_of_ble_eq_true rfl⟩) ⟨zw_blind zw_tt, va_recv (hK.sub (tys' := [(c 21, .long), (c 22, .int), (c 23, .int), (c 24, .int), (c 25, .int), (c 26, .int), (c 27, .int), (c 28, .int)]) [0, 1, 2, 3, 4, 5, 6, 7] rfl) (hP.sub (ws' := wD h c (upd (upd st.1 0 (0 : Int32)) 2 (-1 : Int32), st.2.1, st.2.2.1, st.2.2.2.1, st.2.2.2.2.1, st.2.2.2.2.2)) [0, 1, 2, 3, 4, 5, 6, 7, 8] rfl) (ci := 6) (q0 := 0) rfl rfl, zw_go (hP.sub (ws' := wD h c (upd (upd st.1 0 (0 : Int32)) 2 (-1 : Int32), st.2.1, st.2.2.1, st.2.2.2.1, st.2.2.2.2.1, st.2.2.2.2.2)) [0, 1, 2, 3, 4, 5, 6, 7, 8] rfl) (hD.sub (ws' := wD h c (upd (upd st.1 0 (0 : Int32)) 2 (-1 : Int32), st.2.1, st.2.2.1, st.2.2.2.1, st.2.2.2.2.1, st.2.2.2.2.2)) [0, 1, 2, 3, 4, 5, 6, 7, 8] (by decide) rfl) (hK.sub (tys' := [(c 21, .long), (c 22, .int), (c 23, .int), (c 24, .int), (c 25, .int), (c 26, .int), (c 27, .int), (c 28, .int)]) [0, 1, 2, 3, 4, 5, 6, 7] rfl) (fun _ _ _ => trivial)⟩ rfl rfl hl.1 rfl (lv_room (Nat.le_of_ble_eq_true rfl)) d_D_assemble_11 ⟨Nat.le_of_ble_eq_true rfl, Nat.le_of_ble_eq_true rfl⟩) hP hD hS hA [0, 1, 2, 3, 4, 5, 6, 7, 8] [] [0, 1, 2, 3, 4, 5, 6, 7, 8] rfl rfl (by decide) (by decide) (by decide) (fun _ => rfl) (fun r_1 u_1 H locs hw hP hD hS => ?_)
  obtain ⟨er_1, eu_1⟩ := hw
  refine lv_istore_n (lv' := [(2, .int r_1), (0, .ref (h 20)), (1, .int p0)]) hx hb d_D_assemble_14 rfl hl (by decide) rfl (fun ls hl => ?_)
  refine lv_aload_n hx hb d_D_assemble_15 rfl (lv_at hl 1 rfl) ?_
  refine lv_iconst (v := (0 : Int32)) hx hb d_D_assemble_16 (by decide) ?_
  refine va_put (D := D) (ci := 6) (v := .int (0 : Int32)) (ty := .int) (C := "WindowMachineModel") (T := T_D) (N := 31) hx hb ht zi_D ty_D tyok_D nm_D hown hK hP hD hS 0 rfl rfl 4 (by decide) (ht _ zw_858) (fun _ h9 => h9) rfl (by decide +kernel) rfl rfl (Nat.le_of_ble_eq_true rfl) d_D_assemble_17 (fun H locs hP hD hS => ?_)
  have hP : va_P D vwCl (wD h c (upd u_1.1 1 (0 : Int32), u_1.2.1, u_1.2.2.1, u_1.2.2.2.1, u_1.2.2.2.2.1, u_1.2.2.2.2.2)) H := hP
  have hD : va_D A (wD h c (upd u_1.1 1 (0 : Int32), u_1.2.1, u_1.2.2.1, u_1.2.2.2.1, u_1.2.2.2.2.1, u_1.2.2.2.2.2)) := hD
  refine lv_aload_n hx hb d_D_assemble_20 rfl (lv_at hl 1 rfl) ?_
  refine lv_aload_n hx hb d_D_assemble_21 rfl (lv_at hl 1 rfl) ?_
  refine va_get (D := D) (ci := 6) (v := .int (u_1.1 2)) (C := "WindowMachineModel") (T := T_D) (N := 31) hx hb ht zi_D hown hK hP 0 rfl rfl 5 (by decide) (ht _ zw_859) (fun _ h9 => h9) rfl d_D_assemble_22 ?_
  refine zcut (X := Int32) (G := fun v9 H locs ls => v9 = (if (u_1.1 2) < (0 : Int32) then (0 : Int32) else (1 : Int32)) ∧ va_P D vwCl (wD h c (upd u_1.1 1 (0 : Int32), u_1.2.1, u_1.2.2.1, u_1.2.2.2.1, u_1.2.2.2.2.1, u_1.2.2.2.2.2)) H ∧ va_D A (wD h c (upd u_1.1 1 (0 : Int32), u_1.2.1, u_1.2.2.1, u_1.2.2.2.1, u_1.2.2.2.2.1, u_1.2.2.2.2.2)) ∧ va_S A s.heap H locs ∧ lv_has ls 3 [(0, .ref (h 20)), (1, .int p0), (2, .int r_1)]) (fr := fun v9 ls => F0 m 33 ls [.int v9, .ref (h 20)]) (fun J_3 => ?_) (fun v9 H locs ls hG => ?_)
  · refine lv_if_lt (tgt := 32) hx hb d_D_assemble_25 (by decide) (fun c_4 => ?_) (fun c_4 => ?_)
    · refine lv_iconst (v := (0 : Int32)) hx hb d_D_assemble_32 (by decide) ?_
      exact J_3 (0 : Int32) _ _ _ ⟨by simp only [if_pos c_4], hP, hD, hS, (lv_sub hl [1, 2, 0] rfl)⟩
    refine lv_iconst (v := (1 : Int32)) hx hb d_D_assemble_28 (by decide) ?_
    refine lv_goto (tgt := 33) hx hb d_D_assemble_29 (by decide) ?_
    exact J_3 (1 : Int32) _ _ _ ⟨by simp only [if_neg c_4], hP, hD, hS, (lv_sub hl [1, 2, 0] rfl)⟩
  obtain ⟨x_2, rfl⟩ : ∃ z, z = v9 := ⟨_, rfl⟩
  obtain ⟨ex_2, hP, hD, hS, hl⟩ := hG
  have zbx_2 : zB x_2 := by rw [ex_2]; repeat' first | with_reducible exact zB0 | with_reducible exact zB1 | with_reducible assumption | with_reducible refine zB_ite ?_ ?_
  refine lv_iconst (v := (1 : Int32)) hx hb d_D_assemble_33 (by decide) ?_
  refine zc_i (w2 := fun u9 => wD h c u9) (va_runV (As := [.int x_2, .int (1 : Int32)]) (rest := []) ⟨hx, hb, hml, hown, ht⟩ (mt_D_fails l D h c H.size (upd u_1.1 1 (0 : Int32), u_1.2.1, u_1.2.2.1, u_1.2.2.2.1, u_1.2.2.2.2.1, u_1.2.2.2.2.2) x_2 (1 : Int32)) (cwV 2 ht (zgV zw_964 zw_966 zs_53 zw_7 zw_967) rfl rfl rfl kd_D_fails ⟨Nat.le_of_ble_eq_true rfl, Nat.le_of_ble_eq_true rfl⟩) ⟨zw_blind zw_tt, va_recv (hK.sub (tys' := [(c 21, .long), (c 22, .int), (c 23, .int), (c 24, .int), (c 25, .int), (c 26, .int), (c 27, .int), (c 28, .int)]) [0, 1, 2, 3, 4, 5, 6, 7] rfl) (hP.sub (ws' := wD h c (upd u_1.1 1 (0 : Int32), u_1.2.1, u_1.2.2.1, u_1.2.2.2.1, u_1.2.2.2.2.1, u_1.2.2.2.2.2)) [0, 1, 2, 3, 4, 5, 6, 7, 8] rfl) (ci := 6) (q0 := 0) rfl rfl, zw_go (hP.sub (ws' := wD h c (upd u_1.1 1 (0 : Int32), u_1.2.1, u_1.2.2.1, u_1.2.2.2.1, u_1.2.2.2.2.1, u_1.2.2.2.2.2)) [0, 1, 2, 3, 4, 5, 6, 7, 8] rfl) (hD.sub (ws' := wD h c (upd u_1.1 1 (0 : Int32), u_1.2.1, u_1.2.2.1, u_1.2.2.2.1, u_1.2.2.2.2.1, u_1.2.2.2.2.2)) [0, 1, 2, 3, 4, 5, 6, 7, 8] (by decide) rfl) (hK.sub (tys' := [(c 21, .long), (c 22, .int), (c 23, .int), (c 24, .int), (c 25, .int), (c 26, .int), (c 27, .int), (c 28, .int)]) [0, 1, 2, 3, 4, 5, 6, 7] rfl) (fun _ _ _ => trivial)⟩ rfl rfl hl.1 rfl (lv_room (Nat.le_of_ble_eq_true rfl)) d_D_assemble_34 ⟨Nat.le_of_ble_eq_true rfl, Nat.le_of_ble_eq_true rfl⟩) hP hD hS hA [0, 1, 2, 3, 4, 5, 6, 7, 8] [] [0, 1, 2, 3, 4, 5, 6, 7, 8] rfl rfl (by decide) (by decide) (by decide) (fun _ => rfl) (fun r_5 u_5 H locs hw hP hD hS => ?_)
  obtain ⟨er_5, eu_5⟩ := hw
  refine lv_if_ne (tgt := 60) hx hb d_D_assemble_37 (by decide) (fun c_6 => ?_) (fun c_6 => ?_)
  · refine lv_iconst (v := (0 : Int32)) hx hb d_D_assemble_60 (by decide) ?_
    exact zl_i (u := u_5) hx hb hr hlocks hS hP hD (⟨by simp only [m_assemble, ← er_1, ← eu_1, ← ex_2, ← er_5, ← eu_5, if_neg c_6], by simp only [m_assemble, ← er_1, ← eu_1, ← ex_2, ← er_5, ← eu_5, if_neg c_6]⟩) d_D_assemble_61
  refine lv_aload_n hx hb d_D_assemble_40 rfl (lv_at hl 0 rfl) ?_
  refine lv_iload_n hx hb d_D_assemble_41 rfl (lv_at hl 1 rfl) ?_
  refine zc_i (w2 := fun _ => wD h c u_5) (va_runS (As := [.int p0]) (rest := [.ref (h 20)]) ⟨hx, hb, hml, hown, ht⟩ (mt_D_isWord l D H.size p0) (cwS 1 ht (zgS zw_957 zw_958 zw_7 zw_959) rfl rfl rfl kd_D_isWord ⟨Nat.le_of_ble_eq_true rfl, Nat.le_of_ble_eq_true rfl⟩) ⟨zw_blind zw_tt, zw_go (hP.sub (ws' := []) [] rfl) (hD.sub (ws' := []) [] (by decide) rfl) (hK.sub (tys' := []) [] rfl) (fun _ _ _ => trivial)⟩ rfl rfl hl.1 rfl (lv_room (Nat.le_of_ble_eq_true rfl)) d_D_assemble_42 ⟨Nat.le_of_ble_eq_true rfl, Nat.le_of_ble_eq_true rfl⟩) hP hD hS hA [] [0, 1, 2, 3, 4, 5, 6, 7, 8] [0, 1, 2, 3, 4, 5, 6, 7, 8] rfl rfl (by decide) (by decide) (by decide) (fun _ => rfl) (fun r_7 _ H locs hw hP hD hS => ?_)
  have er_7 := hw
  refine zcut (X := Int32) (G := fun v9 H locs ls => v9 = (if r_7 = (0 : Int32) then (1 : Int32) else (0 : Int32)) ∧ va_P D vwCl (wD h c u_5) H ∧ va_D A (wD h c u_5) ∧ va_S A s.heap H locs ∧ lv_has ls 3 [(0, .ref (h 20)), (1, .int p0), (2, .int r_1)]) (fr := fun v9 ls => F0 m 53 ls [.int v9, .ref (h 20)]) (fun J_9 => ?_) (fun v9 H locs ls hG => ?_)
  · refine lv_if_ne (tgt := 52) hx hb d_D_assemble_45 (by decide) (fun c_10 => ?_) (fun c_10 => ?_)
    · refine lv_iconst (v := (0 : Int32)) hx hb d_D_assemble_52 (by decide) ?_
      exact J_9 (0 : Int32) _ _ _ ⟨by simp only [if_neg c_10], hP, hD, hS, hl⟩
    refine lv_iconst (v := (1 : Int32)) hx hb d_D_assemble_48 (by decide) ?_
    refine lv_goto (tgt := 53) hx hb d_D_assemble_49 (by decide) ?_
    exact J_9 (1 : Int32) _ _ _ ⟨by simp only [if_pos c_10], hP, hD, hS, hl⟩
  obtain ⟨x_8, rfl⟩ : ∃ z, z = v9 := ⟨_, rfl⟩
  obtain ⟨ex_8, hP, hD, hS, hl⟩ := hG
  have zbx_8 : zB x_8 := by rw [ex_8]; repeat' first | with_reducible exact zB0 | with_reducible exact zB1 | with_reducible assumption | with_reducible refine zB_ite ?_ ?_
  refine lv_iconst (v := (2 : Int32)) hx hb d_D_assemble_53 (by decide) ?_
  refine zc_i (w2 := fun u9 => wD h c u9) (va_runV (As := [.int x_8, .int (2 : Int32)]) (rest := []) ⟨hx, hb, hml, hown, ht⟩ (mt_D_fails l D h c H.size u_5 x_8 (2 : Int32)) (cwV 2 ht (zgV zw_964 zw_966 zs_53 zw_7 zw_967) rfl rfl rfl kd_D_fails ⟨Nat.le_of_ble_eq_true rfl, Nat.le_of_ble_eq_true rfl⟩) ⟨zw_blind zw_tt, va_recv (hK.sub (tys' := [(c 21, .long), (c 22, .int), (c 23, .int), (c 24, .int), (c 25, .int), (c 26, .int), (c 27, .int), (c 28, .int)]) [0, 1, 2, 3, 4, 5, 6, 7] rfl) (hP.sub (ws' := wD h c u_5) [0, 1, 2, 3, 4, 5, 6, 7, 8] rfl) (ci := 6) (q0 := 0) rfl rfl, zw_go (hP.sub (ws' := wD h c u_5) [0, 1, 2, 3, 4, 5, 6, 7, 8] rfl) (hD.sub (ws' := wD h c u_5) [0, 1, 2, 3, 4, 5, 6, 7, 8] (by decide) rfl) (hK.sub (tys' := [(c 21, .long), (c 22, .int), (c 23, .int), (c 24, .int), (c 25, .int), (c 26, .int), (c 27, .int), (c 28, .int)]) [0, 1, 2, 3, 4, 5, 6, 7] rfl) (fun _ _ _ => trivial)⟩ rfl rfl hl.1 rfl (lv_room (Nat.le_of_ble_eq_true rfl)) d_D_assemble_54 ⟨Nat.le_of_ble_eq_true rfl, Nat.le_of_ble_eq_true rfl⟩) hP hD hS hA [0, 1, 2, 3, 4, 5, 6, 7, 8] [] [0, 1, 2, 3, 4, 5, 6, 7, 8] rfl rfl (by decide) (by decide) (by decide) (fun _ => rfl) (fun r_11 u_11 H locs hw hP hD hS => ?_)
  obtain ⟨er_11, eu_11⟩ := hw
  refine lv_if_eq (tgt := 62) hx hb d_D_assemble_57 (by decide) (fun c_12 => ?_) (fun c_12 => ?_)
  · refine lv_aload_n hx hb d_D_assemble_62 rfl (lv_at hl 0 rfl) ?_
    refine lv_iload_n hx hb d_D_assemble_63 rfl (lv_at hl 1 rfl) ?_
    refine lv_iconst (v := (4 : Int32)) hx hb d_D_assemble_64 (by decide) ?_
    refine lv_iload_n hx hb d_D_assemble_65 rfl (lv_at hl 2 rfl) ?_
    refine zc_v (w2 := fun u9 => wD h c u9) (va_runV (As := [.int p0, .int (4 : Int32), .int r_1]) (rest := []) ⟨hx, hb, hml, hown, ht⟩ (mt_D_store l D h c H.size u_11 p0 (4 : Int32) r_1 (pw_in2 er_7 ex_8 er_11 c_12)) (cwV 3 ht (zgV zw_972 zw_974 zs_55 zw_7 zw_975) rfl rfl rfl kd_D_store ⟨Nat.le_of_ble_eq_true rfl, Nat.le_of_ble_eq_true rfl⟩) ⟨zw_blind zw_tt, va_recv (hK.sub (tys' := [(c 21, .long), (c 22, .int), (c 23, .int), (c 24, .int), (c 25, .int), (c 26, .int), (c 27, .int), (c 28, .int)]) [0, 1, 2, 3, 4, 5, 6, 7] rfl) (hP.sub (ws' := wD h c u_11) [0, 1, 2, 3, 4, 5, 6, 7, 8] rfl) (ci := 6) (q0 := 0) rfl rfl, zw_go (hP.sub (ws' := wD h c u_11) [0, 1, 2, 3, 4, 5, 6, 7, 8] rfl) (hD.sub (ws' := wD h c u_11) [0, 1, 2, 3, 4, 5, 6, 7, 8] (by decide) rfl) (hK.sub (tys' := [(c 21, .long), (c 22, .int), (c 23, .int), (c 24, .int), (c 25, .int), (c 26, .int), (c 27, .int), (c 28, .int)]) [0, 1, 2, 3, 4, 5, 6, 7] rfl) (fun _ _ _ => trivial)⟩ rfl rfl hl.1 rfl (lv_room (Nat.le_of_ble_eq_true rfl)) d_D_assemble_66 ⟨Nat.le_of_ble_eq_true rfl, Nat.le_of_ble_eq_true rfl⟩) hP hD hS hA [0, 1, 2, 3, 4, 5, 6, 7, 8] [] [0, 1, 2, 3, 4, 5, 6, 7, 8] rfl rfl (by decide) (by decide) (by decide) (fun _ => rfl) (fun u_13 H locs hw hP hD hS => ?_)
    have eu_13 := hw
    refine lv_iload_n hx hb d_D_assemble_69 rfl (lv_at hl 2 rfl) ?_
    exact zl_i (u := u_13) hx hb hr hlocks hS hP hD (⟨by simp only [m_assemble, ← er_1, ← eu_1, ← ex_2, ← er_5, ← eu_5, ← er_7, ← ex_8, ← er_11, ← eu_11, ← eu_13, if_pos c_6, if_pos c_12], by simp only [m_assemble, ← er_1, ← eu_1, ← ex_2, ← er_5, ← eu_5, ← er_7, ← ex_8, ← er_11, ← eu_11, ← eu_13, if_pos c_6, if_pos c_12]⟩) d_D_assemble_70
  refine lv_iconst (v := (0 : Int32)) hx hb d_D_assemble_60 (by decide) ?_
  exact zl_i (u := u_11) hx hb hr hlocks hS hP hD (⟨by simp only [m_assemble, ← er_1, ← eu_1, ← ex_2, ← er_5, ← eu_5, ← er_7, ← ex_8, ← er_11, ← eu_11, if_pos c_6, if_neg c_12], by simp only [m_assemble, ← er_1, ← eu_1, ← ex_2, ← er_5, ← eu_5, ← er_7, ← ex_8, ← er_11, ← eu_11, if_pos c_6, if_neg c_12]⟩) d_D_assemble_61
