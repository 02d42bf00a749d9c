theorem d_P_writeY_0 : decode c_P_writeY 0 = .ok (.iload_n 1, 1) := by decide +kernel
theorem d_P_writeY_1 : decode c_P_writeY 1 = .ok (.invokestatic 197, 3) := by decide +kernel
theorem d_P_writeY_4 : decode c_P_writeY 4 = .ok (.ifCond .eq 5, 3) := by decide +kernel
theorem d_P_writeY_7 : decode c_P_writeY 7 = .ok (.iconst 2, 1) := by decide +kernel
theorem d_P_writeY_8 : decode c_P_writeY 8 = .ok (.ireturn, 1) := by decide +kernel
theorem d_P_writeY_9 : decode c_P_writeY 9 = .ok (.aload_n 0, 1) := by decide +kernel
theorem d_P_writeY_10 : decode c_P_writeY 10 = .ok (.iload_n 2, 1) := by decide +kernel
theorem d_P_writeY_11 : decode c_P_writeY 11 = .ok (.putfield 66, 3) := by decide +kernel
theorem d_P_writeY_14 : decode c_P_writeY 14 = .ok (.iconst (-1), 1) := by decide +kernel
theorem d_P_writeY_15 : decode c_P_writeY 15 = .ok (.ireturn, 1) := by decide +kernel
theorem kd_P_writeY : (y_P_writeY).cls = "WindowMachine$Processor" ∧ (y_P_writeY).cls ≠ "java/lang/invoke/MethodHandle" ∧ (y_P_writeY).cls ≠ "java/lang/invoke/VarHandle" ∧ (parseMethodDescriptor (y_P_writeY).desc).map (fun d => d.parameters.length) = some 2 := by decide +kernel
def f_writeY (st : SP) (p0 : Int32) (p1 : Int32) : Int32 × SP := (if (f_rdOf p0) = (0 : Int32) then ((-1 : Int32), (upd st.1 2 p1, st.2.1, st.2.2.1, st.2.2.2)) else ((2 : Int32), st))
set_option maxHeartbeats 4000000 in
set_option maxRecDepth 100000 in
theorem mt_P_writeY (l : Launch) (D : va_G) (h : Nat → Nat) (c : Nat → ClassId) (sz : Nat) (st : SP) (p0 : Int32) (p1 : Int32) : Met l y_P_writeY w_P_writeY ({ frames := 1, cells := 0, slots := 0, locals := 20 }) (va_Pc [.ref (h 0), .int p0, .int p1] (zw_pre D vwCl [(c 0, .int), (c 1, .int)] sz (wP h c st) (fun _ => True))) (va_Qi (fun r (u : SP) => r = (f_writeY st p0 p1).1 ∧ u = (f_writeY st p0 p1).2) (fun u t => zw_at D vwCl (va_A (wP h c st) sz) ((fun (u : SP) => wP h c u) u) t) (va_A (wP h c st) sz)) 0 0 (va_A (wP h c st) sz) := by
  refine zm (Qf := fun A => va_Qi (fun r (u : SP) => r = (f_writeY st p0 p1).1 ∧ u = (f_writeY st p0 p1).2) (fun u t => zw_at D vwCl A ((fun (u : SP) => wP h c u) u) t) A) (Zf := fun _ _ => True) (cc := c_P_writeY) (nL := 3) (ret := (some .int)) (by decide) rfl (Nat.le_of_ble_eq_true rfl) ?_
  intro p e s m below meth c9 A H locs ls hx hb hml hown hts hr hlocks hA hK hP hD hS hZ hl
  have hl : lv_has ls 3 [(0, .ref (h 0)), (1, .int p0), (2, .int p1)] := hl
  have ht : ∀ w9 ∈ zT, w9.before _ s = true := fun w9 h9 => hts w9 (List.mem_cons_of_mem _ h9)
  refine lv_iload_n hx hb d_P_writeY_0 rfl (lv_at hl 1 rfl) ?_
  refine zc_i (w2 := fun _ => wP h c st) (va_runS (As := [.int p0]) (rest := []) ⟨hx, hb, hml, hown, ht⟩ (mt_P_rdOf l D H.size p0) (cwS 1 ht (zgS zw_550 zw_551 zw_4 zw_552) rfl rfl rfl kd_P_rdOf ⟨Nat.le_of_ble_eq_true rfl, Nat.le_of_ble_eq_true rfl⟩) ⟨zw_blind zw_tt, zw_go (hP.sub (ws' := []) [] rfl) (hD.sub (ws' := []) [] (by decide) rfl) (hK.sub (tys' := []) [] rfl) (fun _ _ _ => trivial)⟩ rfl rfl hl.1 rfl (lv_room (Nat.le_of_ble_eq_true rfl)) d_P_writeY_1 ⟨Nat.le_of_ble_eq_true rfl, Nat.le_of_ble_eq_true rfl⟩) hP hD hS hA [] [0, 1, 2, 3, 4, 5] [0, 1, 2, 3, 4, 5] rfl rfl (by decide) (by decide) (by decide) (fun _ => rfl) (fun r_1 _ H locs hw hP hD hS => ?_)
  subst hw
  refine lv_if_eq (tgt := 9) hx hb d_P_writeY_4 (by decide) (fun c_2 => ?_) (fun c_2 => ?_)
  · refine lv_aload_n hx hb d_P_writeY_9 rfl (lv_at hl 0 rfl) ?_
    refine lv_iload_n hx hb d_P_writeY_10 rfl (lv_at hl 2 rfl) ?_
    refine va_put (D := D) (ci := 2) (v := .int p1) (ty := .int) (C := "WindowMachine$Processor") (T := T_P) (N := 18) hx hb ht zi_P ty_P tyok_P nm_P hown hK hP hD hS 0 rfl rfl 5 (by decide) (ht _ zw_123) (fun _ h9 => h9) rfl (by decide +kernel) rfl rfl (Nat.le_of_ble_eq_true rfl) d_P_writeY_11 (fun H locs hP hD hS => ?_)
    have hP : va_P D vwCl (wP h c (upd st.1 2 p1, st.2.1, st.2.2.1, st.2.2.2)) H := hP
    have hD : va_D A (wP h c (upd st.1 2 p1, st.2.1, st.2.2.1, st.2.2.2)) := hD
    refine lv_iconst (v := (-1 : Int32)) hx hb d_P_writeY_14 (by decide) ?_
    exact zl_i (u := (upd st.1 2 p1, st.2.1, st.2.2.1, st.2.2.2)) hx hb hr hlocks hS hP hD (⟨by simp only [f_writeY, if_pos c_2], by simp only [f_writeY, if_pos c_2]⟩) d_P_writeY_15
  refine lv_iconst (v := (2 : Int32)) hx hb d_P_writeY_7 (by decide) ?_
  exact zl_i (u := st) hx hb hr hlocks hS hP hD (⟨by simp only [f_writeY, if_neg c_2], by simp only [f_writeY, if_neg c_2]⟩) d_P_writeY_8
theorem d_P_writeStatus_0 : decode c_P_writeStatus 0 = .ok (.iload_n 1, 1) := by decide +kernel
theorem d_P_writeStatus_1 : decode c_P_writeStatus 1 = .ok (.bipush 31, 2) := by decide +kernel
theorem d_P_writeStatus_3 : decode c_P_writeStatus 3 = .ok (.iand, 1) := by decide +kernel
theorem d_P_writeStatus_4 : decode c_P_writeStatus 4 = .ok (.iconst 4, 1) := by decide +kernel
theorem d_P_writeStatus_5 : decode c_P_writeStatus 5 = .ok (.if_icmp .lt 5, 3) := by decide +kernel
theorem d_P_writeStatus_8 : decode c_P_writeStatus 8 = .ok (.iconst 2, 1) := by decide +kernel
theorem d_P_writeStatus_9 : decode c_P_writeStatus 9 = .ok (.ireturn, 1) := by decide +kernel
theorem d_P_writeStatus_10 : decode c_P_writeStatus 10 = .ok (.aload_n 0, 1) := by decide +kernel
theorem d_P_writeStatus_11 : decode c_P_writeStatus 11 = .ok (.iload_n 1, 1) := by decide +kernel
theorem d_P_writeStatus_12 : decode c_P_writeStatus 12 = .ok (.bipush 20, 2) := by decide +kernel
theorem d_P_writeStatus_14 : decode c_P_writeStatus 14 = .ok (.iushr, 1) := by decide +kernel
theorem d_P_writeStatus_15 : decode c_P_writeStatus 15 = .ok (.bipush 15, 2) := by decide +kernel
theorem d_P_writeStatus_17 : decode c_P_writeStatus 17 = .ok (.iand, 1) := by decide +kernel
theorem d_P_writeStatus_18 : decode c_P_writeStatus 18 = .ok (.putfield 63, 3) := by decide +kernel
theorem d_P_writeStatus_21 : decode c_P_writeStatus 21 = .ok (.aload_n 0, 1) := by decide +kernel
theorem d_P_writeStatus_22 : decode c_P_writeStatus 22 = .ok (.iload_n 1, 1) := by decide +kernel
theorem d_P_writeStatus_23 : decode c_P_writeStatus 23 = .ok (.bipush 7, 2) := by decide +kernel
theorem d_P_writeStatus_25 : decode c_P_writeStatus 25 = .ok (.iushr, 1) := by decide +kernel
theorem d_P_writeStatus_26 : decode c_P_writeStatus 26 = .ok (.iconst 1, 1) := by decide +kernel
theorem d_P_writeStatus_27 : decode c_P_writeStatus 27 = .ok (.iand, 1) := by decide +kernel
theorem d_P_writeStatus_28 : decode c_P_writeStatus 28 = .ok (.iload_n 1, 1) := by decide +kernel
theorem d_P_writeStatus_29 : decode c_P_writeStatus 29 = .ok (.bipush 6, 2) := by decide +kernel
theorem d_P_writeStatus_31 : decode c_P_writeStatus 31 = .ok (.iushr, 1) := by decide +kernel
theorem d_P_writeStatus_32 : decode c_P_writeStatus 32 = .ok (.iconst 1, 1) := by decide +kernel
theorem d_P_writeStatus_33 : decode c_P_writeStatus 33 = .ok (.iand, 1) := by decide +kernel
theorem d_P_writeStatus_34 : decode c_P_writeStatus 34 = .ok (.iload_n 1, 1) := by decide +kernel
theorem d_P_writeStatus_35 : decode c_P_writeStatus 35 = .ok (.iconst 5, 1) := by decide +kernel
theorem d_P_writeStatus_36 : decode c_P_writeStatus 36 = .ok (.iushr, 1) := by decide +kernel
theorem d_P_writeStatus_37 : decode c_P_writeStatus 37 = .ok (.iconst 1, 1) := by decide +kernel
theorem d_P_writeStatus_38 : decode c_P_writeStatus 38 = .ok (.iand, 1) := by decide +kernel
theorem d_P_writeStatus_39 : decode c_P_writeStatus 39 = .ok (.invokevirtual 75, 3) := by decide +kernel
theorem d_P_writeStatus_42 : decode c_P_writeStatus 42 = .ok (.aload_n 0, 1) := by decide +kernel
theorem d_P_writeStatus_43 : decode c_P_writeStatus 43 = .ok (.iload_n 1, 1) := by decide +kernel
theorem d_P_writeStatus_44 : decode c_P_writeStatus 44 = .ok (.bipush 31, 2) := by decide +kernel
theorem d_P_writeStatus_46 : decode c_P_writeStatus 46 = .ok (.iand, 1) := by decide +kernel
theorem d_P_writeStatus_47 : decode c_P_writeStatus 47 = .ok (.putfield 36, 3) := by decide +kernel
theorem d_P_writeStatus_50 : decode c_P_writeStatus 50 = .ok (.iconst (-1), 1) := by decide +kernel
theorem d_P_writeStatus_51 : decode c_P_writeStatus 51 = .ok (.ireturn, 1) := by decide +kernel
theorem kd_P_writeStatus : (y_P_writeStatus).cls = "WindowMachine$Processor" ∧ (y_P_writeStatus).cls ≠ "java/lang/invoke/MethodHandle" ∧ (y_P_writeStatus).cls ≠ "java/lang/invoke/VarHandle" ∧ (parseMethodDescriptor (y_P_writeStatus).desc).map (fun d => d.parameters.length) = some 1 := by decide +kernel
def f_writeStatus (st : SP) (p0 : Int32) : Int32 × SP := (if (p0 &&& (31 : Int32)) < (4 : Int32) then (let u_2 := f_changeMode (upd st.1 1 ((zushr p0 (20 : Int32)) &&& (15 : Int32)), st.2.1, st.2.2.1, st.2.2.2) ((zushr p0 (7 : Int32)) &&& (1 : Int32)) ((zushr p0 (6 : Int32)) &&& (1 : Int32)) ((zushr p0 (5 : Int32)) &&& (1 : Int32)); ((-1 : Int32), (upd u_2.1 0 (p0 &&& (31 : Int32)), u_2.2.1, u_2.2.2.1, u_2.2.2.2))) else ((2 : Int32), st))
set_option maxHeartbeats 4000000 in
set_option maxRecDepth 100000 in
theorem mt_P_writeStatus (l : Launch) (D : va_G) (h : Nat → Nat) (c : Nat → ClassId) (sz : Nat) (st : SP) (p0 : Int32) : Met l y_P_writeStatus w_P_writeStatus ({ frames := 1, cells := 0, slots := 0, locals := 23 }) (va_Pc [.ref (h 0), .int p0] (zw_pre D vwCl [(c 0, .int), (c 1, .int)] sz (wP h c st) (fun _ => True))) (va_Qi (fun r (u : SP) => r = (f_writeStatus st p0).1 ∧ u = (f_writeStatus st p0).2) (fun u t => zw_at D vwCl (va_A (wP h c st) sz) ((fun (u : SP) => wP h c u) u) t) (va_A (wP h c st) sz)) 0 0 (va_A (wP h c st) sz) := by
  refine zm (Qf := fun A => va_Qi (fun r (u : SP) => r = (f_writeStatus st p0).1 ∧ u = (f_writeStatus st p0).2) (fun u t => zw_at D vwCl A ((fun (u : SP) => wP h c u) u) t) A) (Zf := fun _ _ => True) (cc := c_P_writeStatus) (nL := 2) (ret := (some .int)) (by decide) rfl (Nat.le_of_ble_eq_true rfl) ?_
  intro p e s m below meth c9 A H locs ls hx hb hml hown hts hr hlocks hA hK hP hD hS hZ hl
  have hl : lv_has ls 2 [(0, .ref (h 0)), (1, .int p0)] := hl
  have ht : ∀ w9 ∈ zT, w9.before _ s = true := fun w9 h9 => hts w9 (List.mem_cons_of_mem _ h9)
  refine lv_iload_n hx hb d_P_writeStatus_0 rfl (lv_at hl 1 rfl) ?_
  refine lv_bipush (v := (31 : Int32)) hx hb d_P_writeStatus_1 (by decide) ?_
  refine lv_iand hx hb d_P_writeStatus_3 ?_
  refine lv_iconst (v := (4 : Int32)) hx hb d_P_writeStatus_4 (by decide) ?_
  refine lv_icmp_lt (tgt := 10) hx hb d_P_writeStatus_5 (by decide) (fun c_1 => ?_) (fun c_1 => ?_)
  · refine lv_aload_n hx hb d_P_writeStatus_10 rfl (lv_at hl 0 rfl) ?_
    refine lv_iload_n hx hb d_P_writeStatus_11 rfl (lv_at hl 1 rfl) ?_
    refine lv_bipush (v := (20 : Int32)) hx hb d_P_writeStatus_12 (by decide) ?_
    refine lv_iushr (v := zushr p0 (20 : Int32)) hx hb d_P_writeStatus_14 rfl ?_
    refine lv_bipush (v := (15 : Int32)) hx hb d_P_writeStatus_15 (by decide) ?_
    refine lv_iand hx hb d_P_writeStatus_17 ?_
    refine va_put (D := D) (ci := 2) (v := .int ((zushr p0 (20 : Int32)) &&& (15 : Int32))) (ty := .int) (C := "WindowMachine$Processor") (T := T_P) (N := 18) hx hb ht zi_P ty_P tyok_P nm_P hown hK hP hD hS 0 rfl rfl 4 (by decide) (ht _ zw_122) (fun _ h9 => h9) rfl (by decide +kernel) rfl rfl (Nat.le_of_ble_eq_true rfl) d_P_writeStatus_18 (fun H locs hP hD hS => ?_)
    have hP : va_P D vwCl (wP h c (upd st.1 1 ((zushr p0 (20 : Int32)) &&& (15 : Int32)), st.2.1, st.2.2.1, st.2.2.2)) H := hP
    have hD : va_D A (wP h c (upd st.1 1 ((zushr p0 (20 : Int32)) &&& (15 : Int32)), st.2.1, st.2.2.1, st.2.2.2)) := hD
    refine lv_aload_n hx hb d_P_writeStatus_21 rfl (lv_at hl 0 rfl) ?_
    refine lv_iload_n hx hb d_P_writeStatus_22 rfl (lv_at hl 1 rfl) ?_
    refine lv_bipush (v := (7 : Int32)) hx hb d_P_writeStatus_23 (by decide) ?_
    refine lv_iushr (v := zushr p0 (7 : Int32)) hx hb d_P_writeStatus_25 rfl ?_
    refine lv_iconst (v := (1 : Int32)) hx hb d_P_writeStatus_26 (by decide) ?_
    refine lv_iand hx hb d_P_writeStatus_27 ?_
    refine lv_iload_n hx hb d_P_writeStatus_28 rfl (lv_at hl 1 rfl) ?_
    refine lv_bipush (v := (6 : Int32)) hx hb d_P_writeStatus_29 (by decide) ?_
    refine lv_iushr (v := zushr p0 (6 : Int32)) hx hb d_P_writeStatus_31 rfl ?_
    refine lv_iconst (v := (1 : Int32)) hx hb d_P_writeStatus_32 (by decide) ?_
    refine lv_iand hx hb d_P_writeStatus_33 ?_
    refine lv_iload_n hx hb d_P_writeStatus_34 rfl (lv_at hl 1 rfl) ?_
    refine lv_iconst (v := (5 : Int32)) hx hb d_P_writeStatus_35 (by decide) ?_
    refine lv_iushr (v := zushr p0 (5 : Int32)) hx hb d_P_writeStatus_36 rfl ?_
    refine lv_iconst (v := (1 : Int32)) hx hb d_P_writeStatus_37 (by decide) ?_
    refine lv_iand hx hb d_P_writeStatus_38 ?_
    refine zc_v (w2 := fun u9 => wP h c u9) (va_runV (As := [.int ((zushr p0 (7 : Int32)) &&& (1 : Int32)), .int ((zushr p0 (6 : Int32)) &&& (1 : Int32)), .int ((zushr p0 (5 : Int32)) &&& (1 : Int32))]) (rest := []) ⟨hx, hb, hml, hown, ht⟩ (mt_P_changeMode l D h c H.size (upd st.1 1 ((zushr p0 (20 : Int32)) &&& (15 : Int32)), st.2.1, st.2.2.1, st.2.2.2) ((zushr p0 (7 : Int32)) &&& (1 : Int32)) ((zushr p0 (6 : Int32)) &&& (1 : Int32)) ((zushr p0 (5 : Int32)) &&& (1 : Int32))) (cwV 3 ht (zgV zw_112 zw_114 zs_0 zw_4 zw_115) rfl rfl rfl kd_P_changeMode ⟨Nat.le_of_ble_eq_true rfl, Nat.le_of_ble_eq_true rfl⟩) ⟨zw_blind zw_tt, va_recv (hK.sub (tys' := [(c 0, .int), (c 1, .int)]) [0, 1] rfl) (hP.sub (ws' := wP h c (upd st.1 1 ((zushr p0 (20 : Int32)) &&& (15 : Int32)), st.2.1, st.2.2.1, st.2.2.2)) [0, 1, 2, 3, 4, 5] rfl) (ci := 2) (q0 := 0) rfl rfl, zw_go (hP.sub (ws' := wP h c (upd st.1 1 ((zushr p0 (20 : Int32)) &&& (15 : Int32)), st.2.1, st.2.2.1, st.2.2.2)) [0, 1, 2, 3, 4, 5] rfl) (hD.sub (ws' := wP h c (upd st.1 1 ((zushr p0 (20 : Int32)) &&& (15 : Int32)), st.2.1, st.2.2.1, st.2.2.2)) [0, 1, 2, 3, 4, 5] (by decide) rfl) (hK.sub (tys' := [(c 0, .int), (c 1, .int)]) [0, 1] rfl) (fun _ _ _ => trivial)⟩ rfl rfl hl.1 rfl (lv_room (Nat.le_of_ble_eq_true rfl)) d_P_writeStatus_39 ⟨Nat.le_of_ble_eq_true rfl, Nat.le_of_ble_eq_true rfl⟩) hP hD hS hA [0, 1, 2, 3, 4, 5] [] [0, 1, 2, 3, 4, 5] rfl rfl (by decide) (by decide) (by decide) (fun _ => rfl) (fun u_2 H locs hw hP hD hS => ?_)
    have eu_2 := hw
    refine lv_aload_n hx hb d_P_writeStatus_42 rfl (lv_at hl 0 rfl) ?_
    refine lv_iload_n hx hb d_P_writeStatus_43 rfl (lv_at hl 1 rfl) ?_
    refine lv_bipush (v := (31 : Int32)) hx hb d_P_writeStatus_44 (by decide) ?_
    refine lv_iand hx hb d_P_writeStatus_46 ?_
    refine va_put (D := D) (ci := 2) (v := .int (p0 &&& (31 : Int32))) (ty := .int) (C := "WindowMachine$Processor") (T := T_P) (N := 18) hx hb ht zi_P ty_P tyok_P nm_P hown hK hP hD hS 0 rfl rfl 3 (by decide) (ht _ zw_120) (fun _ h9 => h9) rfl (by decide +kernel) rfl rfl (Nat.le_of_ble_eq_true rfl) d_P_writeStatus_47 (fun H locs hP hD hS => ?_)
    have hP : va_P D vwCl (wP h c (upd u_2.1 0 (p0 &&& (31 : Int32)), u_2.2.1, u_2.2.2.1, u_2.2.2.2)) H := hP
    have hD : va_D A (wP h c (upd u_2.1 0 (p0 &&& (31 : Int32)), u_2.2.1, u_2.2.2.1, u_2.2.2.2)) := hD
    refine lv_iconst (v := (-1 : Int32)) hx hb d_P_writeStatus_50 (by decide) ?_
    exact zl_i (u := (upd u_2.1 0 (p0 &&& (31 : Int32)), u_2.2.1, u_2.2.2.1, u_2.2.2.2)) hx hb hr hlocks hS hP hD (⟨by subst eu_2; simp only [f_writeStatus, if_pos c_1], by subst eu_2; simp only [f_writeStatus, if_pos c_1]⟩) d_P_writeStatus_51
  refine lv_iconst (v := (2 : Int32)) hx hb d_P_writeStatus_8 (by decide) ?_
  exact zl_i (u := st) hx hb hr hlocks hS hP hD (⟨by simp only [f_writeStatus, if_neg c_1], by simp only [f_writeStatus, if_neg c_1]⟩) d_P_writeStatus_9
theorem d_P_writeSpecial_0 : decode c_P_writeSpecial 0 = .ok (.aload_n 0, 1) := by decide +kernel
theorem d_P_writeSpecial_1 : decode c_P_writeSpecial 1 = .ok (.getfield 79, 3) := by decide +kernel
theorem d_P_writeSpecial_4 : decode c_P_writeSpecial 4 = .ok (.ifCond .ne 5, 3) := by decide +kernel
theorem d_P_writeSpecial_7 : decode c_P_writeSpecial 7 = .ok (.iconst 3, 1) := by decide +kernel
theorem d_P_writeSpecial_8 : decode c_P_writeSpecial 8 = .ok (.ireturn, 1) := by decide +kernel
theorem d_P_writeSpecial_9 : decode c_P_writeSpecial 9 = .ok (.iload_n 1, 1) := by decide +kernel
theorem d_P_writeSpecial_10 : decode c_P_writeSpecial 10 = .ok (.lookupswitch 42 #[(49, 26), (50, 32)], 26) := by decide +kernel
theorem d_P_writeSpecial_36 : decode c_P_writeSpecial 36 = .ok (.aload_n 0, 1) := by decide +kernel
theorem d_P_writeSpecial_37 : decode c_P_writeSpecial 37 = .ok (.iload_n 2, 1) := by decide +kernel
theorem d_P_writeSpecial_38 : decode c_P_writeSpecial 38 = .ok (.invokevirtual 200, 3) := by decide +kernel
theorem d_P_writeSpecial_41 : decode c_P_writeSpecial 41 = .ok (.ireturn, 1) := by decide +kernel
theorem d_P_writeSpecial_42 : decode c_P_writeSpecial 42 = .ok (.aload_n 0, 1) := by decide +kernel
theorem d_P_writeSpecial_43 : decode c_P_writeSpecial 43 = .ok (.iload_n 2, 1) := by decide +kernel
theorem d_P_writeSpecial_44 : decode c_P_writeSpecial 44 = .ok (.bipush 15, 2) := by decide +kernel
theorem d_P_writeSpecial_46 : decode c_P_writeSpecial 46 = .ok (.iand, 1) := by decide +kernel
theorem d_P_writeSpecial_47 : decode c_P_writeSpecial 47 = .ok (.putfield 69, 3) := by decide +kernel
theorem d_P_writeSpecial_50 : decode c_P_writeSpecial 50 = .ok (.iconst (-1), 1) := by decide +kernel
theorem d_P_writeSpecial_51 : decode c_P_writeSpecial 51 = .ok (.ireturn, 1) := by decide +kernel
theorem d_P_writeSpecial_52 : decode c_P_writeSpecial 52 = .ok (.aload_n 0, 1) := by decide +kernel
theorem d_P_writeSpecial_53 : decode c_P_writeSpecial 53 = .ok (.iload_n 2, 1) := by decide +kernel
theorem d_P_writeSpecial_54 : decode c_P_writeSpecial 54 = .ok (.sipush (-4096), 3) := by decide +kernel
theorem d_P_writeSpecial_57 : decode c_P_writeSpecial 57 = .ok (.iand, 1) := by decide +kernel
theorem d_P_writeSpecial_58 : decode c_P_writeSpecial 58 = .ok (.putfield 72, 3) := by decide +kernel
theorem d_P_writeSpecial_61 : decode c_P_writeSpecial 61 = .ok (.iconst (-1), 1) := by decide +kernel
theorem d_P_writeSpecial_62 : decode c_P_writeSpecial 62 = .ok (.ireturn, 1) := by decide +kernel
theorem kd_P_writeSpecial : (y_P_writeSpecial).cls = "WindowMachine$Processor" ∧ (y_P_writeSpecial).cls ≠ "java/lang/invoke/MethodHandle" ∧ (y_P_writeSpecial).cls ≠ "java/lang/invoke/VarHandle" ∧ (parseMethodDescriptor (y_P_writeSpecial).desc).map (fun d => d.parameters.length) = some 2 := by decide +kernel
def f_writeSpecial (st : SP) (p0 : Int32) (p1 : Int32) : Int32 × SP := (if (st.1 4) = (0 : Int32) then ((3 : Int32), st) else (if p0 = (49 : Int32) then (let r_4 := (f_writeStatus st p1).1; (let u_4 := (f_writeStatus st p1).2; (r_4, u_4))) else (if p0 = (50 : Int32) then ((-1 : Int32), (upd st.1 3 (p1 &&& (15 : Int32)), st.2.1, st.2.2.1, st.2.2.2)) else ((-1 : Int32), (upd st.1 7 (p1 &&& (-4096 : Int32)), st.2.1, st.2.2.1, st.2.2.2)))))
set_option maxHeartbeats 4000000 in
set_option maxRecDepth 100000 in
theorem mt_P_writeSpecial (l : Launch) (D : va_G) (h : Nat → Nat) (c : Nat → ClassId) (sz : Nat) (st : SP) (p0 : Int32) (p1 : Int32) : Met l y_P_writeSpecial w_P_writeSpecial ({ frames := 2, cells := 0, slots := 0, locals := 44 }) (va_Pc [.ref (h 0), .int p0, .int p1] (zw_pre D vwCl [(c 0, .int), (c 1, .int)] sz (wP h c st) (fun _ => True))) (va_Qi (fun r (u : SP) => r = (f_writeSpecial st p0 p1).1 ∧ u = (f_writeSpecial st p0 p1).2) (fun u t => zw_at D vwCl (va_A (wP h c st) sz) ((fun (u : SP) => wP h c u) u) t) (va_A (wP h c st) sz)) 0 0 (va_A (wP h c st) sz) := by
  refine zm (Qf := fun A => va_Qi (fun r (u : SP) => r = (f_writeSpecial st p0 p1).1 ∧ u = (f_writeSpecial st p0 p1).2) (fun u t => zw_at D vwCl A ((fun (u : SP) => wP h c u) u) t) A) (Zf := fun _ _ => True) (cc := c_P_writeSpecial) (nL := 3) (ret := (some .int)) (by decide) rfl (Nat.le_of_ble_eq_true rfl) ?_
  intro p e s m below meth c9 A H locs ls hx hb hml hown hts hr hlocks hA hK hP hD hS hZ hl
  have hl : lv_has ls 3 [(0, .ref (h 0)), (1, .int p0), (2, .int p1)] := hl
  have ht : ∀ w9 ∈ zT, w9.before _ s = true := fun w9 h9 => hts w9 (List.mem_cons_of_mem _ h9)
  refine lv_aload_n hx hb d_P_writeSpecial_0 rfl (lv_at hl 0 rfl) ?_
  refine va_get (D := D) (ci := 2) (v := .int (st.1 4)) (C := "WindowMachine$Processor") (T := T_P) (N := 18) hx hb ht zi_P hown hK hP 0 rfl rfl 7 (by decide) (ht _ zw_125) (fun _ h9 => h9) rfl d_P_writeSpecial_1 ?_
  refine lv_if_ne (tgt := 9) hx hb d_P_writeSpecial_4 (by decide) (fun c_1 => ?_) (fun c_1 => ?_)
  · refine lv_iload_n hx hb d_P_writeSpecial_9 rfl (lv_at hl 1 rfl) ?_
    by_cases c_3 : p0 = (49 : Int32)
    · refine lv_lookup (tgt := 36) (off := 26) hx hb d_P_writeSpecial_10 (by decide) (by rw [c_3]; first | done | rfl) (by decide) ?_
      refine lv_aload_n hx hb d_P_writeSpecial_36 rfl (lv_at hl 0 rfl) ?_
      refine lv_iload_n hx hb d_P_writeSpecial_37 rfl (lv_at hl 2 rfl) ?_
      refine zc_i (w2 := fun u9 => wP h c u9) (va_runV (As := [.int p1]) (rest := []) ⟨hx, hb, hml, hown, ht⟩ (mt_P_writeStatus l D h c H.size st p1) (cwV 1 ht (zgV zw_649 zw_651 zs_39 zw_4 zw_652) rfl rfl rfl kd_P_writeStatus ⟨Nat.le_of_ble_eq_true rfl, Nat.le_of_ble_eq_true rfl⟩) ⟨zw_blind zw_tt, va_recv (hK.sub (tys' := [(c 0, .int), (c 1, .int)]) [0, 1] rfl) (hP.sub (ws' := wP h c st) [0, 1, 2, 3, 4, 5] rfl) (ci := 2) (q0 := 0) rfl rfl, zw_go (hP.sub (ws' := wP h c st) [0, 1, 2, 3, 4, 5] rfl) (hD.sub (ws' := wP h c st) [0, 1, 2, 3, 4, 5] (by decide) rfl) (hK.sub (tys' := [(c 0, .int), (c 1, .int)]) [0, 1] rfl) (fun _ _ _ => trivial)⟩ rfl rfl hl.1 rfl (lv_room (Nat.le_of_ble_eq_true rfl)) d_P_writeSpecial_38 ⟨Nat.le_of_ble_eq_true rfl, Nat.le_of_ble_eq_true rfl⟩) hP hD hS hA [0, 1, 2, 3, 4, 5] [] [0, 1, 2, 3, 4, 5] rfl rfl (by decide) (by decide) (by decide) (fun _ => rfl) (fun r_4 u_4 H locs hw hP hD hS => ?_)
      obtain ⟨er_4, eu_4⟩ := hw
      exact zl_i (u := u_4) hx hb hr hlocks hS hP hD (⟨by subst er_4; subst eu_4; simp only [f_writeSpecial, if_neg c_1, if_pos c_3], by subst er_4; subst eu_4; simp only [f_writeSpecial, if_neg c_1, if_pos c_3]⟩) d_P_writeSpecial_41
    by_cases c_5 : p0 = (50 : Int32)
    · refine lv_lookup (tgt := 42) (off := 32) hx hb d_P_writeSpecial_10 (by decide) (by rw [c_5]; first | done | rfl) (by decide) ?_
      refine lv_aload_n hx hb d_P_writeSpecial_42 rfl (lv_at hl 0 rfl) ?_
      refine lv_iload_n hx hb d_P_writeSpecial_43 rfl (lv_at hl 2 rfl) ?_
      refine lv_bipush (v := (15 : Int32)) hx hb d_P_writeSpecial_44 (by decide) ?_
      refine lv_iand hx hb d_P_writeSpecial_46 ?_
      refine va_put (D := D) (ci := 2) (v := .int (p1 &&& (15 : Int32))) (ty := .int) (C := "WindowMachine$Processor") (T := T_P) (N := 18) hx hb ht zi_P ty_P tyok_P nm_P hown hK hP hD hS 0 rfl rfl 6 (by decide) (ht _ zw_124) (fun _ h9 => h9) rfl (by decide +kernel) rfl rfl (Nat.le_of_ble_eq_true rfl) d_P_writeSpecial_47 (fun H locs hP hD hS => ?_)
      have hP : va_P D vwCl (wP h c (upd st.1 3 (p1 &&& (15 : Int32)), st.2.1, st.2.2.1, st.2.2.2)) H := hP
      have hD : va_D A (wP h c (upd st.1 3 (p1 &&& (15 : Int32)), st.2.1, st.2.2.1, st.2.2.2)) := hD
      refine lv_iconst (v := (-1 : Int32)) hx hb d_P_writeSpecial_50 (by decide) ?_
      exact zl_i (u := (upd st.1 3 (p1 &&& (15 : Int32)), st.2.1, st.2.2.1, st.2.2.2)) hx hb hr hlocks hS hP hD (⟨by simp only [f_writeSpecial, if_neg c_1, if_neg c_3, if_pos c_5], by simp only [f_writeSpecial, if_neg c_1, if_neg c_3, if_pos c_5]⟩) d_P_writeSpecial_51
    refine lv_lookup (tgt := 52) (off := 42) hx hb d_P_writeSpecial_10 (by decide) (by rw [lv_osw c_3 (a := 49) (by decide), lv_osw c_5 (a := 50) (by decide)]; first | done | rfl) (by decide) ?_
    refine lv_aload_n hx hb d_P_writeSpecial_52 rfl (lv_at hl 0 rfl) ?_
    refine lv_iload_n hx hb d_P_writeSpecial_53 rfl (lv_at hl 2 rfl) ?_
    refine lv_sipush (v := (-4096 : Int32)) hx hb d_P_writeSpecial_54 (by decide) ?_
    refine lv_iand hx hb d_P_writeSpecial_57 ?_
    refine va_put (D := D) (ci := 2) (v := .int (p1 &&& (-4096 : Int32))) (ty := .int) (C := "WindowMachine$Processor") (T := T_P) (N := 18) hx hb ht zi_P ty_P tyok_P nm_P hown hK hP hD hS 0 rfl rfl 10 (by decide) (ht _ zw_128) (fun _ h9 => h9) rfl (by decide +kernel) rfl rfl (Nat.le_of_ble_eq_true rfl) d_P_writeSpecial_58 (fun H locs hP hD hS => ?_)
    have hP : va_P D vwCl (wP h c (upd st.1 7 (p1 &&& (-4096 : Int32)), st.2.1, st.2.2.1, st.2.2.2)) H := hP
    have hD : va_D A (wP h c (upd st.1 7 (p1 &&& (-4096 : Int32)), st.2.1, st.2.2.1, st.2.2.2)) := hD
    refine lv_iconst (v := (-1 : Int32)) hx hb d_P_writeSpecial_61 (by decide) ?_
    exact zl_i (u := (upd st.1 7 (p1 &&& (-4096 : Int32)), st.2.1, st.2.2.1, st.2.2.2)) hx hb hr hlocks hS hP hD (⟨by simp only [f_writeSpecial, if_neg c_1, if_neg c_3, if_neg c_5], by simp only [f_writeSpecial, if_neg c_1, if_neg c_3, if_neg c_5]⟩) d_P_writeSpecial_62
  refine lv_iconst (v := (3 : Int32)) hx hb d_P_writeSpecial_7 (by decide) ?_
  exact zl_i (u := st) hx hb hr hlocks hS hP hD (⟨by simp only [f_writeSpecial, if_pos c_1], by simp only [f_writeSpecial, if_pos c_1]⟩) d_P_writeSpecial_8
theorem d_P_readSpecial_0 : decode c_P_readSpecial 0 = .ok (.aload_n 0, 1) := by decide +kernel
theorem d_P_readSpecial_1 : decode c_P_readSpecial 1 = .ok (.getfield 79, 3) := by decide +kernel
theorem d_P_readSpecial_4 : decode c_P_readSpecial 4 = .ok (.ifCond .ne 5, 3) := by decide +kernel
theorem d_P_readSpecial_7 : decode c_P_readSpecial 7 = .ok (.iconst 3, 1) := by decide +kernel
theorem d_P_readSpecial_8 : decode c_P_readSpecial 8 = .ok (.ireturn, 1) := by decide +kernel
theorem d_P_readSpecial_9 : decode c_P_readSpecial 9 = .ok (.iload_n 2, 1) := by decide +kernel
theorem d_P_readSpecial_10 : decode c_P_readSpecial 10 = .ok (.lookupswitch 77 #[(41, 26), (42, 67)], 26) := by decide +kernel
theorem d_P_readSpecial_36 : decode c_P_readSpecial 36 = .ok (.aload_n 0, 1) := by decide +kernel
theorem d_P_readSpecial_37 : decode c_P_readSpecial 37 = .ok (.iload_n 1, 1) := by decide +kernel
theorem d_P_readSpecial_38 : decode c_P_readSpecial 38 = .ok (.aload_n 0, 1) := by decide +kernel
theorem d_P_readSpecial_39 : decode c_P_readSpecial 39 = .ok (.getfield 63, 3) := by decide +kernel
theorem d_P_readSpecial_42 : decode c_P_readSpecial 42 = .ok (.bipush 20, 2) := by decide +kernel
theorem d_P_readSpecial_44 : decode c_P_readSpecial 44 = .ok (.ishl, 1) := by decide +kernel
theorem d_P_readSpecial_45 : decode c_P_readSpecial 45 = .ok (.aload_n 0, 1) := by decide +kernel
theorem d_P_readSpecial_46 : decode c_P_readSpecial 46 = .ok (.getfield 79, 3) := by decide +kernel
theorem d_P_readSpecial_49 : decode c_P_readSpecial 49 = .ok (.bipush 7, 2) := by decide +kernel
theorem d_P_readSpecial_51 : decode c_P_readSpecial 51 = .ok (.ishl, 1) := by decide +kernel
theorem d_P_readSpecial_52 : decode c_P_readSpecial 52 = .ok (.ior, 1) := by decide +kernel
theorem d_P_readSpecial_53 : decode c_P_readSpecial 53 = .ok (.aload_n 0, 1) := by decide +kernel
theorem d_P_readSpecial_54 : decode c_P_readSpecial 54 = .ok (.getfield 82, 3) := by decide +kernel
theorem d_P_readSpecial_57 : decode c_P_readSpecial 57 = .ok (.bipush 6, 2) := by decide +kernel
theorem d_P_readSpecial_59 : decode c_P_readSpecial 59 = .ok (.ishl, 1) := by decide +kernel
theorem d_P_readSpecial_60 : decode c_P_readSpecial 60 = .ok (.ior, 1) := by decide +kernel
theorem d_P_readSpecial_61 : decode c_P_readSpecial 61 = .ok (.aload_n 0, 1) := by decide +kernel
theorem d_P_readSpecial_62 : decode c_P_readSpecial 62 = .ok (.getfield 85, 3) := by decide +kernel
theorem d_P_readSpecial_65 : decode c_P_readSpecial 65 = .ok (.iconst 5, 1) := by decide +kernel
theorem d_P_readSpecial_66 : decode c_P_readSpecial 66 = .ok (.ishl, 1) := by decide +kernel
theorem d_P_readSpecial_67 : decode c_P_readSpecial 67 = .ok (.ior, 1) := by decide +kernel
theorem d_P_readSpecial_68 : decode c_P_readSpecial 68 = .ok (.aload_n 0, 1) := by decide +kernel
theorem d_P_readSpecial_69 : decode c_P_readSpecial 69 = .ok (.getfield 36, 3) := by decide +kernel
theorem d_P_readSpecial_72 : decode c_P_readSpecial 72 = .ok (.ior, 1) := by decide +kernel
theorem d_P_readSpecial_73 : decode c_P_readSpecial 73 = .ok (.invokevirtual 130, 3) := by decide +kernel
theorem d_P_readSpecial_76 : decode c_P_readSpecial 76 = .ok (.ireturn, 1) := by decide +kernel
theorem d_P_readSpecial_77 : decode c_P_readSpecial 77 = .ok (.aload_n 0, 1) := by decide +kernel
theorem d_P_readSpecial_78 : decode c_P_readSpecial 78 = .ok (.iload_n 1, 1) := by decide +kernel
theorem d_P_readSpecial_79 : decode c_P_readSpecial 79 = .ok (.aload_n 0, 1) := by decide +kernel
theorem d_P_readSpecial_80 : decode c_P_readSpecial 80 = .ok (.getfield 69, 3) := by decide +kernel
theorem d_P_readSpecial_83 : decode c_P_readSpecial 83 = .ok (.invokevirtual 130, 3) := by decide +kernel
theorem d_P_readSpecial_86 : decode c_P_readSpecial 86 = .ok (.ireturn, 1) := by decide +kernel
theorem d_P_readSpecial_87 : decode c_P_readSpecial 87 = .ok (.aload_n 0, 1) := by decide +kernel
theorem d_P_readSpecial_88 : decode c_P_readSpecial 88 = .ok (.iload_n 1, 1) := by decide +kernel
theorem d_P_readSpecial_89 : decode c_P_readSpecial 89 = .ok (.aload_n 0, 1) := by decide +kernel
theorem d_P_readSpecial_90 : decode c_P_readSpecial 90 = .ok (.getfield 72, 3) := by decide +kernel
theorem d_P_readSpecial_93 : decode c_P_readSpecial 93 = .ok (.invokevirtual 130, 3) := by decide +kernel
theorem d_P_readSpecial_96 : decode c_P_readSpecial 96 = .ok (.ireturn, 1) := by decide +kernel
theorem kd_P_readSpecial : (y_P_readSpecial).cls = "WindowMachine$Processor" ∧ (y_P_readSpecial).cls ≠ "java/lang/invoke/MethodHandle" ∧ (y_P_readSpecial).cls ≠ "java/lang/invoke/VarHandle" ∧ (parseMethodDescriptor (y_P_readSpecial).desc).map (fun d => d.parameters.length) = some 2 := by decide +kernel
def f_readSpecial (st : SP) (p0 : Int32) (p1 : Int32) : Int32 × SP := (if (st.1 4) = (0 : Int32) then ((3 : Int32), st) else (if p1 = (41 : Int32) then (let r_4 := (f_deliver st p0 ((((((st.1 1) <<< ((20 : Int32) &&& 31)) ||| ((st.1 4) <<< ((7 : Int32) &&& 31))) ||| ((st.1 5) <<< ((6 : Int32) &&& 31))) ||| ((st.1 6) <<< ((5 : Int32) &&& 31))) ||| (st.1 0))).1; (let u_4 := (f_deliver st p0 ((((((st.1 1) <<< ((20 : Int32) &&& 31)) ||| ((st.1 4) <<< ((7 : Int32) &&& 31))) ||| ((st.1 5) <<< ((6 : Int32) &&& 31))) ||| ((st.1 6) <<< ((5 : Int32) &&& 31))) ||| (st.1 0))).2; (r_4, u_4))) else (if p1 = (42 : Int32) then (let r_6 := (f_deliver st p0 (st.1 3)).1; (let u_6 := (f_deliver st p0 (st.1 3)).2; (r_6, u_6))) else (let r_7 := (f_deliver st p0 (st.1 7)).1; (let u_7 := (f_deliver st p0 (st.1 7)).2; (r_7, u_7))))))
set_option maxHeartbeats 4000000 in
set_option maxRecDepth 100000 in
theorem mt_P_readSpecial (l : Launch) (D : va_G) (h : Nat → Nat) (c : Nat → ClassId) (sz : Nat) (st : SP) (p0 : Int32) (p1 : Int32) (hW : vp_in (st.1 0) 4) : Met l y_P_readSpecial w_P_readSpecial ({ frames := 3, cells := 0, slots := 0, locals := 66 }) (va_Pc [.ref (h 0), .int p0, .int p1] (zw_pre D vwCl [(c 0, .int), (c 1, .int)] sz (wP h c st) (fun _ => True))) (va_Qi (fun r (u : SP) => r = (f_readSpecial st p0 p1).1 ∧ u = (f_readSpecial st p0 p1).2) (fun u t => zw_at D vwCl (va_A (wP h c st) sz) ((fun (u : SP) => wP h c u) u) t) (va_A (wP h c st) sz)) 0 0 (va_A (wP h c st) sz) := by
  refine zm (Qf := fun A => va_Qi (fun r (u : SP) => r = (f_readSpecial st p0 p1).1 ∧ u = (f_readSpecial st p0 p1).2) (fun u t => zw_at D vwCl A ((fun (u : SP) => wP h c u) u) t) A) (Zf := fun _ _ => True) (cc := c_P_readSpecial) (nL := 3) (ret := (some .int)) (by decide) rfl (Nat.le_of_ble_eq_true rfl) ?_
  intro p e s m below meth c9 A H locs ls hx hb hml hown hts hr hlocks hA hK hP hD hS hZ hl
  have hl : lv_has ls 3 [(0, .ref (h 0)), (1, .int p0), (2, .int p1)] := hl
  have ht : ∀ w9 ∈ zT, w9.before _ s = true := fun w9 h9 => hts w9 (List.mem_cons_of_mem _ h9)
  refine lv_aload_n hx hb d_P_readSpecial_0 rfl (lv_at hl 0 rfl) ?_
  refine va_get (D := D) (ci := 2) (v := .int (st.1 4)) (C := "WindowMachine$Processor") (T := T_P) (N := 18) hx hb ht zi_P hown hK hP 0 rfl rfl 7 (by decide) (ht _ zw_125) (fun _ h9 => h9) rfl d_P_readSpecial_1 ?_
  refine lv_if_ne (tgt := 9) hx hb d_P_readSpecial_4 (by decide) (fun c_1 => ?_) (fun c_1 => ?_)
  · refine lv_iload_n hx hb d_P_readSpecial_9 rfl (lv_at hl 2 rfl) ?_
    by_cases c_3 : p1 = (41 : Int32)
    · refine lv_lookup (tgt := 36) (off := 26) hx hb d_P_readSpecial_10 (by decide) (by rw [c_3]; first | done | rfl) (by decide) ?_
      refine lv_aload_n hx hb d_P_readSpecial_36 rfl (lv_at hl 0 rfl) ?_
      refine lv_iload_n hx hb d_P_readSpecial_37 rfl (lv_at hl 1 rfl) ?_
      refine lv_aload_n hx hb d_P_readSpecial_38 rfl (lv_at hl 0 rfl) ?_
      refine va_get (D := D) (ci := 2) (v := .int (st.1 1)) (C := "WindowMachine$Processor") (T := T_P) (N := 18) hx hb ht zi_P hown hK hP 0 rfl rfl 4 (by decide) (ht _ zw_122) (fun _ h9 => h9) rfl d_P_readSpecial_39 ?_
      refine lv_bipush (v := (20 : Int32)) hx hb d_P_readSpecial_42 (by decide) ?_
      refine lv_ishl hx hb d_P_readSpecial_44 ?_
      refine lv_aload_n hx hb d_P_readSpecial_45 rfl (lv_at hl 0 rfl) ?_
      refine va_get (D := D) (ci := 2) (v := .int (st.1 4)) (C := "WindowMachine$Processor") (T := T_P) (N := 18) hx hb ht zi_P hown hK hP 0 rfl rfl 7 (by decide) (ht _ zw_125) (fun _ h9 => h9) rfl d_P_readSpecial_46 ?_
      refine lv_bipush (v := (7 : Int32)) hx hb d_P_readSpecial_49 (by decide) ?_
      refine lv_ishl hx hb d_P_readSpecial_51 ?_
      refine lv_ior hx hb d_P_readSpecial_52 ?_
      refine lv_aload_n hx hb d_P_readSpecial_53 rfl (lv_at hl 0 rfl) ?_
      refine va_get (D := D) (ci := 2) (v := .int (st.1 5)) (C := "WindowMachine$Processor") (T := T_P) (N := 18) hx hb ht zi_P hown hK hP 0 rfl rfl 8 (by decide) (ht _ zw_126) (fun _ h9 => h9) rfl d_P_readSpecial_54 ?_
      refine lv_bipush (v := (6 : Int32)) hx hb d_P_readSpecial_57 (by decide) ?_
      refine lv_ishl hx hb d_P_readSpecial_59 ?_
      refine lv_ior hx hb d_P_readSpecial_60 ?_
      refine lv_aload_n hx hb d_P_readSpecial_61 rfl (lv_at hl 0 rfl) ?_
      refine va_get (D := D) (ci := 2) (v := .int (st.1 6)) (C := "WindowMachine$Processor") (T := T_P) (N := 18) hx hb ht zi_P hown hK hP 0 rfl rfl 9 (by decide) (ht _ zw_127) (fun _ h9 => h9) rfl d_P_readSpecial_62 ?_
      refine lv_iconst (v := (5 : Int32)) hx hb d_P_readSpecial_65 (by decide) ?_
      refine lv_ishl hx hb d_P_readSpecial_66 ?_
      refine lv_ior hx hb d_P_readSpecial_67 ?_
      refine lv_aload_n hx hb d_P_readSpecial_68 rfl (lv_at hl 0 rfl) ?_
      refine va_get (D := D) (ci := 2) (v := .int (st.1 0)) (C := "WindowMachine$Processor") (T := T_P) (N := 18) hx hb ht zi_P hown hK hP 0 rfl rfl 3 (by decide) (ht _ zw_120) (fun _ h9 => h9) rfl d_P_readSpecial_69 ?_
      refine lv_ior hx hb d_P_readSpecial_72 ?_
      refine zc_i (w2 := fun u9 => wP h c u9) (va_runV (As := [.int p0, .int ((((((st.1 1) <<< ((20 : Int32) &&& 31)) ||| ((st.1 4) <<< ((7 : Int32) &&& 31))) ||| ((st.1 5) <<< ((6 : Int32) &&& 31))) ||| ((st.1 6) <<< ((5 : Int32) &&& 31))) ||| (st.1 0))]) (rest := []) ⟨hx, hb, hml, hown, ht⟩ (mt_P_deliver l D h c H.size st p0 ((((((st.1 1) <<< ((20 : Int32) &&& 31)) ||| ((st.1 4) <<< ((7 : Int32) &&& 31))) ||| ((st.1 5) <<< ((6 : Int32) &&& 31))) ||| ((st.1 6) <<< ((5 : Int32) &&& 31))) ||| (st.1 0)) hW) (cwV 2 ht (zgV zw_546 zw_548 zs_26 zw_4 zw_549) rfl rfl rfl kd_P_deliver ⟨Nat.le_of_ble_eq_true rfl, Nat.le_of_ble_eq_true rfl⟩) ⟨zw_blind zw_tt, va_recv (hK.sub (tys' := [(c 0, .int), (c 1, .int)]) [0, 1] rfl) (hP.sub (ws' := wP h c st) [0, 1, 2, 3, 4, 5] rfl) (ci := 2) (q0 := 0) rfl rfl, zw_go (hP.sub (ws' := wP h c st) [0, 1, 2, 3, 4, 5] rfl) (hD.sub (ws' := wP h c st) [0, 1, 2, 3, 4, 5] (by decide) rfl) (hK.sub (tys' := [(c 0, .int), (c 1, .int)]) [0, 1] rfl) (fun _ _ _ => trivial)⟩ rfl rfl hl.1 rfl (lv_room (Nat.le_of_ble_eq_true rfl)) d_P_readSpecial_73 ⟨Nat.le_of_ble_eq_true rfl, Nat.le_of_ble_eq_true rfl⟩) hP hD hS hA [0, 1, 2, 3, 4, 5] [] [0, 1, 2, 3, 4, 5] rfl rfl (by decide) (by decide) (by decide) (fun _ => rfl) (fun r_4 u_4 H locs hw hP hD hS => ?_)
      obtain ⟨er_4, eu_4⟩ := hw
      exact zl_i (u := u_4) hx hb hr hlocks hS hP hD (⟨by subst er_4; subst eu_4; simp only [f_readSpecial, if_neg c_1, if_pos c_3], by subst er_4; subst eu_4; simp only [f_readSpecial, if_neg c_1, if_pos c_3]⟩) d_P_readSpecial_76
    by_cases c_5 : p1 = (42 : Int32)
    · refine lv_lookup (tgt := 77) (off := 67) hx hb d_P_readSpecial_10 (by decide) (by rw [c_5]; first | done | rfl) (by decide) ?_
      refine lv_aload_n hx hb d_P_readSpecial_77 rfl (lv_at hl 0 rfl) ?_
      refine lv_iload_n hx hb d_P_readSpecial_78 rfl (lv_at hl 1 rfl) ?_
      refine lv_aload_n hx hb d_P_readSpecial_79 rfl (lv_at hl 0 rfl) ?_
      refine va_get (D := D) (ci := 2) (v := .int (st.1 3)) (C := "WindowMachine$Processor") (T := T_P) (N := 18) hx hb ht zi_P hown hK hP 0 rfl rfl 6 (by decide) (ht _ zw_124) (fun _ h9 => h9) rfl d_P_readSpecial_80 ?_
      refine zc_i (w2 := fun u9 => wP h c u9) (va_runV (As := [.int p0, .int (st.1 3)]) (rest := []) ⟨hx, hb, hml, hown, ht⟩ (mt_P_deliver l D h c H.size st p0 (st.1 3) hW) (cwV 2 ht (zgV zw_546 zw_548 zs_26 zw_4 zw_549) rfl rfl rfl kd_P_deliver ⟨Nat.le_of_ble_eq_true rfl, Nat.le_of_ble_eq_true rfl⟩) ⟨zw_blind zw_tt, va_recv (hK.sub (tys' := [(c 0, .int), (c 1, .int)]) [0, 1] rfl) (hP.sub (ws' := wP h c st) [0, 1, 2, 3, 4, 5] rfl) (ci := 2) (q0 := 0) rfl rfl, zw_go (hP.sub (ws' := wP h c st) [0, 1, 2, 3, 4, 5] rfl) (hD.sub (ws' := wP h c st) [0, 1, 2, 3, 4, 5] (by decide) rfl) (hK.sub (tys' := [(c 0, .int), (c 1, .int)]) [0, 1] rfl) (fun _ _ _ => trivial)⟩ rfl rfl hl.1 rfl (lv_room (Nat.le_of_ble_eq_true rfl)) d_P_readSpecial_83 ⟨Nat.le_of_ble_eq_true rfl, Nat.le_of_ble_eq_true rfl⟩) hP hD hS hA [0, 1, 2, 3, 4, 5] [] [0, 1, 2, 3, 4, 5] rfl rfl (by decide) (by decide) (by decide) (fun _ => rfl) (fun r_6 u_6 H locs hw hP hD hS => ?_)
      obtain ⟨er_6, eu_6⟩ := hw
      exact zl_i (u := u_6) hx hb hr hlocks hS hP hD (⟨by subst er_6; subst eu_6; simp only [f_readSpecial, if_neg c_1, if_neg c_3, if_pos c_5], by subst er_6; subst eu_6; simp only [f_readSpecial, if_neg c_1, if_neg c_3, if_pos c_5]⟩) d_P_readSpecial_86
    refine lv_lookup (tgt := 87) (off := 77) hx hb d_P_readSpecial_10 (by decide) (by rw [lv_osw c_3 (a := 41) (by decide), lv_osw c_5 (a := 42) (by decide)]; first | done | rfl) (by decide) ?_
    refine lv_aload_n hx hb d_P_readSpecial_87 rfl (lv_at hl 0 rfl) ?_
    refine lv_iload_n hx hb d_P_readSpecial_88 rfl (lv_at hl 1 rfl) ?_
    refine lv_aload_n hx hb d_P_readSpecial_89 rfl (lv_at hl 0 rfl) ?_
    refine va_get (D := D) (ci := 2) (v := .int (st.1 7)) (C := "WindowMachine$Processor") (T := T_P) (N := 18) hx hb ht zi_P hown hK hP 0 rfl rfl 10 (by decide) (ht _ zw_128) (fun _ h9 => h9) rfl d_P_readSpecial_90 ?_
    refine zc_i (w2 := fun u9 => wP h c u9) (va_runV (As := [.int p0, .int (st.1 7)]) (rest := []) ⟨hx, hb, hml, hown, ht⟩ (mt_P_deliver l D h c H.size st p0 (st.1 7) hW) (cwV 2 ht (zgV zw_546 zw_548 zs_26 zw_4 zw_549) rfl rfl rfl kd_P_deliver ⟨Nat.le_of_ble_eq_true rfl, Nat.le_of_ble_eq_true rfl⟩) ⟨zw_blind zw_tt, va_recv (hK.sub (tys' := [(c 0, .int), (c 1, .int)]) [0, 1] rfl) (hP.sub (ws' := wP h c st) [0, 1, 2, 3, 4, 5] rfl) (ci := 2) (q0 := 0) rfl rfl, zw_go (hP.sub (ws' := wP h c st) [0, 1, 2, 3, 4, 5] rfl) (hD.sub (ws' := wP h c st) [0, 1, 2, 3, 4, 5] (by decide) rfl) (hK.sub (tys' := [(c 0, .int), (c 1, .int)]) [0, 1] rfl) (fun _ _ _ => trivial)⟩ rfl rfl hl.1 rfl (lv_room (Nat.le_of_ble_eq_true rfl)) d_P_readSpecial_93 ⟨Nat.le_of_ble_eq_true rfl, Nat.le_of_ble_eq_true rfl⟩) hP hD hS hA [0, 1, 2, 3, 4, 5] [] [0, 1, 2, 3, 4, 5] rfl rfl (by decide) (by decide) (by decide) (fun _ => rfl) (fun r_7 u_7 H locs hw hP hD hS => ?_)
    obtain ⟨er_7, eu_7⟩ := hw
    exact zl_i (u := u_7) hx hb hr hlocks hS hP hD (⟨by subst er_7; subst eu_7; simp only [f_readSpecial, if_neg c_1, if_neg c_3, if_neg c_5], by subst er_7; subst eu_7; simp only [f_readSpecial, if_neg c_1, if_neg c_3, if_neg c_5]⟩) d_P_readSpecial_96
  refine lv_iconst (v := (3 : Int32)) hx hb d_P_readSpecial_7 (by decide) ?_
  exact zl_i (u := st) hx hb hr hlocks hS hP hD (⟨by simp only [f_readSpecial, if_pos c_1], by simp only [f_readSpecial, if_pos c_1]⟩) d_P_readSpecial_8
theorem d_P_jump_0 : decode c_P_jump 0 = .ok (.iload_n 2, 1) := by decide +kernel
theorem d_P_jump_1 : decode c_P_jump 1 = .ok (.iconst 3, 1) := by decide +kernel
theorem d_P_jump_2 : decode c_P_jump 2 = .ok (.iand, 1) := by decide +kernel
theorem d_P_jump_3 : decode c_P_jump 3 = .ok (.ifCond .eq 6, 3) := by decide +kernel
theorem d_P_jump_6 : decode c_P_jump 6 = .ok (.bipush 7, 2) := by decide +kernel
theorem d_P_jump_8 : decode c_P_jump 8 = .ok (.ireturn, 1) := by decide +kernel
theorem d_P_jump_9 : decode c_P_jump 9 = .ok (.aload_n 0, 1) := by decide +kernel
theorem d_P_jump_10 : decode c_P_jump 10 = .ok (.iload_n 2, 1) := by decide +kernel
theorem d_P_jump_11 : decode c_P_jump 11 = .ok (.putfield 88, 3) := by decide +kernel
theorem d_P_jump_14 : decode c_P_jump 14 = .ok (.aload_n 0, 1) := by decide +kernel
theorem d_P_jump_15 : decode c_P_jump 15 = .ok (.iload_n 1, 1) := by decide +kernel
theorem d_P_jump_16 : decode c_P_jump 16 = .ok (.aload_n 0, 1) := by decide +kernel
theorem d_P_jump_17 : decode c_P_jump 17 = .ok (.getfield 44, 3) := by decide +kernel
theorem d_P_jump_20 : decode c_P_jump 20 = .ok (.invokevirtual 130, 3) := by decide +kernel
theorem d_P_jump_23 : decode c_P_jump 23 = .ok (.ireturn, 1) := by decide +kernel
theorem kd_P_jump : (y_P_jump).cls = "WindowMachine$Processor" ∧ (y_P_jump).cls ≠ "java/lang/invoke/MethodHandle" ∧ (y_P_jump).cls ≠ "java/lang/invoke/VarHandle" ∧ (parseMethodDescriptor (y_P_jump).desc).map (fun d => d.parameters.length) = some 2 := by decide +kernel
def f_jump (st : SP) (p0 : Int32) (p1 : Int32) : Int32 × SP := (if (p1 &&& (3 : Int32)) = (0 : Int32) then (let r_2 := (f_deliver (upd st.1 10 p1, st.2.1, st.2.2.1, st.2.2.2) p0 (st.1 8)).1; (let u_2 := (f_deliver (upd st.1 10 p1, st.2.1, st.2.2.1, st.2.2.2) p0 (st.1 8)).2; (r_2, u_2))) else ((7 : Int32), st))
set_option maxHeartbeats 4000000 in
set_option maxRecDepth 100000 in
theorem mt_P_jump (l : Launch) (D : va_G) (h : Nat → Nat) (c : Nat → ClassId) (sz : Nat) (st : SP) (p0 : Int32) (p1 : Int32) (hW : vp_in (st.1 0) 4) : Met l y_P_jump w_P_jump ({ frames := 3, cells := 0, slots := 0, locals := 66 }) (va_Pc [.ref (h 0), .int p0, .int p1] (zw_pre D vwCl [(c 0, .int), (c 1, .int)] sz (wP h c st) (fun _ => True))) (va_Qi (fun r (u : SP) => r = (f_jump st p0 p1).1 ∧ u = (f_jump st p0 p1).2) (fun u t => zw_at D vwCl (va_A (wP h c st) sz) ((fun (u : SP) => wP h c u) u) t) (va_A (wP h c st) sz)) 0 0 (va_A (wP h c st) sz) := by
  refine zm (Qf := fun A => va_Qi (fun r (u : SP) => r = (f_jump st p0 p1).1 ∧ u = (f_jump st p0 p1).2) (fun u t => zw_at D vwCl A ((fun (u : SP) => wP h c u) u) t) A) (Zf := fun _ _ => True) (cc := c_P_jump) (nL := 3) (ret := (some .int)) (by decide) rfl (Nat.le_of_ble_eq_true rfl) ?_
  intro p e s m below meth c9 A H locs ls hx hb hml hown hts hr hlocks hA hK hP hD hS hZ hl
  have hl : lv_has ls 3 [(0, .ref (h 0)), (1, .int p0), (2, .int p1)] := hl
  have ht : ∀ w9 ∈ zT, w9.before _ s = true := fun w9 h9 => hts w9 (List.mem_cons_of_mem _ h9)
  refine lv_iload_n hx hb d_P_jump_0 rfl (lv_at hl 2 rfl) ?_
  refine lv_iconst (v := (3 : Int32)) hx hb d_P_jump_1 (by decide) ?_
  refine lv_iand hx hb d_P_jump_2 ?_
  refine lv_if_eq (tgt := 9) hx hb d_P_jump_3 (by decide) (fun c_1 => ?_) (fun c_1 => ?_)
  · refine lv_aload_n hx hb d_P_jump_9 rfl (lv_at hl 0 rfl) ?_
    refine lv_iload_n hx hb d_P_jump_10 rfl (lv_at hl 2 rfl) ?_
    refine va_put (D := D) (ci := 2) (v := .int p1) (ty := .int) (C := "WindowMachine$Processor") (T := T_P) (N := 18) hx hb ht zi_P ty_P tyok_P nm_P hown hK hP hD hS 0 rfl rfl 13 (by decide) (ht _ zw_131) (fun _ h9 => h9) rfl (by decide +kernel) rfl rfl (Nat.le_of_ble_eq_true rfl) d_P_jump_11 (fun H locs hP hD hS => ?_)
    have hP : va_P D vwCl (wP h c (upd st.1 10 p1, st.2.1, st.2.2.1, st.2.2.2)) H := hP
    have hD : va_D A (wP h c (upd st.1 10 p1, st.2.1, st.2.2.1, st.2.2.2)) := hD
    refine lv_aload_n hx hb d_P_jump_14 rfl (lv_at hl 0 rfl) ?_
    refine lv_iload_n hx hb d_P_jump_15 rfl (lv_at hl 1 rfl) ?_
    refine lv_aload_n hx hb d_P_jump_16 rfl (lv_at hl 0 rfl) ?_
    refine va_get (D := D) (ci := 2) (v := .int (st.1 8)) (C := "WindowMachine$Processor") (T := T_P) (N := 18) hx hb ht zi_P hown hK hP 0 rfl rfl 11 (by decide) (ht _ zw_129) (fun _ h9 => h9) rfl d_P_jump_17 ?_
    refine zc_i (w2 := fun u9 => wP h c u9) (va_runV (As := [.int p0, .int (st.1 8)]) (rest := []) ⟨hx, hb, hml, hown, ht⟩ (mt_P_deliver l D h c H.size (upd st.1 10 p1, st.2.1, st.2.2.1, st.2.2.2) p0 (st.1 8) hW) (cwV 2 ht (zgV zw_546 zw_548 zs_26 zw_4 zw_549) rfl rfl rfl kd_P_deliver ⟨Nat.le_of_ble_eq_true rfl, Nat.le_of_ble_eq_true rfl⟩) ⟨zw_blind zw_tt, va_recv (hK.sub (tys' := [(c 0, .int), (c 1, .int)]) [0, 1] rfl) (hP.sub (ws' := wP h c (upd st.1 10 p1, st.2.1, st.2.2.1, st.2.2.2)) [0, 1, 2, 3, 4, 5] rfl) (ci := 2) (q0 := 0) rfl rfl, zw_go (hP.sub (ws' := wP h c (upd st.1 10 p1, st.2.1, st.2.2.1, st.2.2.2)) [0, 1, 2, 3, 4, 5] rfl) (hD.sub (ws' := wP h c (upd st.1 10 p1, st.2.1, st.2.2.1, st.2.2.2)) [0, 1, 2, 3, 4, 5] (by decide) rfl) (hK.sub (tys' := [(c 0, .int), (c 1, .int)]) [0, 1] rfl) (fun _ _ _ => trivial)⟩ rfl rfl hl.1 rfl (lv_room (Nat.le_of_ble_eq_true rfl)) d_P_jump_20 ⟨Nat.le_of_ble_eq_true rfl, Nat.le_of_ble_eq_true rfl⟩) hP hD hS hA [0, 1, 2, 3, 4, 5] [] [0, 1, 2, 3, 4, 5] rfl rfl (by decide) (by decide) (by decide) (fun _ => rfl) (fun r_2 u_2 H locs hw hP hD hS => ?_)
    obtain ⟨er_2, eu_2⟩ := hw
    exact zl_i (u := u_2) hx hb hr hlocks hS hP hD (⟨by subst er_2; subst eu_2; simp only [f_jump, if_pos c_1], by subst er_2; subst eu_2; simp only [f_jump, if_pos c_1]⟩) d_P_jump_23
  refine lv_bipush (v := (7 : Int32)) hx hb d_P_jump_6 (by decide) ?_
  exact zl_i (u := st) hx hb hr hlocks hS hP hD (⟨by simp only [f_jump, if_neg c_1], by simp only [f_jump, if_neg c_1]⟩) d_P_jump_8
theorem d_P_returnFromTrap_0 : decode c_P_returnFromTrap 0 = .ok (.aload_n 0, 1) := by decide +kernel
theorem d_P_returnFromTrap_1 : decode c_P_returnFromTrap 1 = .ok (.getfield 79, 3) := by decide +kernel
theorem d_P_returnFromTrap_4 : decode c_P_returnFromTrap 4 = .ok (.ifCond .ne 5, 3) := by decide +kernel
theorem d_P_returnFromTrap_7 : decode c_P_returnFromTrap 7 = .ok (.iconst 3, 1) := by decide +kernel
theorem d_P_returnFromTrap_8 : decode c_P_returnFromTrap 8 = .ok (.ireturn, 1) := by decide +kernel
theorem d_P_returnFromTrap_9 : decode c_P_returnFromTrap 9 = .ok (.aload_n 0, 1) := by decide +kernel
theorem d_P_returnFromTrap_10 : decode c_P_returnFromTrap 10 = .ok (.getfield 85, 3) := by decide +kernel
theorem d_P_returnFromTrap_13 : decode c_P_returnFromTrap 13 = .ok (.iconst 1, 1) := by decide +kernel
theorem d_P_returnFromTrap_14 : decode c_P_returnFromTrap 14 = .ok (.if_icmp .ne 5, 3) := by decide +kernel
theorem d_P_returnFromTrap_17 : decode c_P_returnFromTrap 17 = .ok (.iconst 2, 1) := by decide +kernel
theorem d_P_returnFromTrap_18 : decode c_P_returnFromTrap 18 = .ok (.ireturn, 1) := by decide +kernel
theorem d_P_returnFromTrap_19 : decode c_P_returnFromTrap 19 = .ok (.aload_n 0, 1) := by decide +kernel
theorem d_P_returnFromTrap_20 : decode c_P_returnFromTrap 20 = .ok (.aload_n 0, 1) := by decide +kernel
theorem d_P_returnFromTrap_21 : decode c_P_returnFromTrap 21 = .ok (.invokevirtual 180, 3) := by decide +kernel
theorem d_P_returnFromTrap_24 : decode c_P_returnFromTrap 24 = .ok (.invokevirtual 203, 3) := by decide +kernel
theorem d_P_returnFromTrap_27 : decode c_P_returnFromTrap 27 = .ok (.ifCond .eq 6, 3) := by decide +kernel
theorem d_P_returnFromTrap_30 : decode c_P_returnFromTrap 30 = .ok (.bipush 6, 2) := by decide +kernel
theorem d_P_returnFromTrap_32 : decode c_P_returnFromTrap 32 = .ok (.ireturn, 1) := by decide +kernel
theorem d_P_returnFromTrap_33 : decode c_P_returnFromTrap 33 = .ok (.iload_n 1, 1) := by decide +kernel
theorem d_P_returnFromTrap_34 : decode c_P_returnFromTrap 34 = .ok (.iconst 3, 1) := by decide +kernel
theorem d_P_returnFromTrap_35 : decode c_P_returnFromTrap 35 = .ok (.iand, 1) := by decide +kernel
theorem d_P_returnFromTrap_36 : decode c_P_returnFromTrap 36 = .ok (.ifCond .eq 6, 3) := by decide +kernel
theorem d_P_returnFromTrap_39 : decode c_P_returnFromTrap 39 = .ok (.bipush 7, 2) := by decide +kernel
theorem d_P_returnFromTrap_41 : decode c_P_returnFromTrap 41 = .ok (.ireturn, 1) := by decide +kernel
theorem d_P_returnFromTrap_42 : decode c_P_returnFromTrap 42 = .ok (.aload_n 0, 1) := by decide +kernel
theorem d_P_returnFromTrap_43 : decode c_P_returnFromTrap 43 = .ok (.iload_n 1, 1) := by decide +kernel
theorem d_P_returnFromTrap_44 : decode c_P_returnFromTrap 44 = .ok (.putfield 88, 3) := by decide +kernel
theorem d_P_returnFromTrap_47 : decode c_P_returnFromTrap 47 = .ok (.aload_n 0, 1) := by decide +kernel
theorem d_P_returnFromTrap_48 : decode c_P_returnFromTrap 48 = .ok (.aload_n 0, 1) := by decide +kernel
theorem d_P_returnFromTrap_49 : decode c_P_returnFromTrap 49 = .ok (.invokevirtual 180, 3) := by decide +kernel
theorem d_P_returnFromTrap_52 : decode c_P_returnFromTrap 52 = .ok (.putfield 36, 3) := by decide +kernel
theorem d_P_returnFromTrap_55 : decode c_P_returnFromTrap 55 = .ok (.aload_n 0, 1) := by decide +kernel
theorem d_P_returnFromTrap_56 : decode c_P_returnFromTrap 56 = .ok (.aload_n 0, 1) := by decide +kernel
theorem d_P_returnFromTrap_57 : decode c_P_returnFromTrap 57 = .ok (.getfield 82, 3) := by decide +kernel
theorem d_P_returnFromTrap_60 : decode c_P_returnFromTrap 60 = .ok (.aload_n 0, 1) := by decide +kernel
theorem d_P_returnFromTrap_61 : decode c_P_returnFromTrap 61 = .ok (.getfield 82, 3) := by decide +kernel
theorem d_P_returnFromTrap_64 : decode c_P_returnFromTrap 64 = .ok (.iconst 1, 1) := by decide +kernel
theorem d_P_returnFromTrap_65 : decode c_P_returnFromTrap 65 = .ok (.invokevirtual 75, 3) := by decide +kernel
theorem d_P_returnFromTrap_68 : decode c_P_returnFromTrap 68 = .ok (.iconst (-1), 1) := by decide +kernel
theorem d_P_returnFromTrap_69 : decode c_P_returnFromTrap 69 = .ok (.ireturn, 1) := by decide +kernel
theorem kd_P_returnFromTrap : (y_P_returnFromTrap).cls = "WindowMachine$Processor" ∧ (y_P_returnFromTrap).cls ≠ "java/lang/invoke/MethodHandle" ∧ (y_P_returnFromTrap).cls ≠ "java/lang/invoke/VarHandle" ∧ (parseMethodDescriptor (y_P_returnFromTrap).desc).map (fun d => d.parameters.length) = some 1 := by decide +kernel
def f_returnFromTrap (st : SP) (p0 : Int32) : Int32 × SP := (if (st.1 4) = (0 : Int32) then ((3 : Int32), st) else (if (st.1 6) = (1 : Int32) then ((2 : Int32), st) else (let r_4 := f_isInvalid st (f_windowAbove st); (if r_4 = (0 : Int32) then (if (p0 &&& (3 : Int32)) = (0 : Int32) then (let r_7 := f_windowAbove (upd st.1 10 p0, st.2.1, st.2.2.1, st.2.2.2); (let u_8 := f_changeMode (upd (upd st.1 10 p0) 0 r_7, st.2.1, st.2.2.1, st.2.2.2) (st.1 5) (st.1 5) (1 : Int32); ((-1 : Int32), u_8))) else ((7 : Int32), st)) else ((6 : Int32), st)))))
set_option maxHeartbeats 4000000 in
set_option maxRecDepth 100000 in
theorem mt_P_returnFromTrap (l : Launch) (D : va_G) (h : Nat → Nat) (c : Nat → ClassId) (sz : Nat) (st : SP) (p0 : Int32) : Met l y_P_returnFromTrap w_P_returnFromTrap ({ frames := 1, cells := 0, slots := 0, locals := 23 }) (va_Pc [.ref (h 0), .int p0] (zw_pre D vwCl [(c 0, .int), (c 1, .int)] sz (wP h c st) (fun _ => True))) (va_Qi (fun r (u : SP) => r = (f_returnFromTrap st p0).1 ∧ u = (f_returnFromTrap st p0).2) (fun u t => zw_at D vwCl (va_A (wP h c st) sz) ((fun (u : SP) => wP h c u) u) t) (va_A (wP h c st) sz)) 0 0 (va_A (wP h c st) sz) := by
  refine zm (Qf := fun A => va_Qi (fun r (u : SP) => r = (f_returnFromTrap st p0).1 ∧ u = (f_returnFromTrap st p0).2) (fun u t => zw_at D vwCl A ((fun (u : SP) => wP h c u) u) t) A) (Zf := fun _ _ => True) (cc := c_P_returnFromTrap) (nL := 2) (ret := (some .int)) (by decide) rfl (Nat.le_of_ble_eq_true rfl) ?_
  intro p e s m below meth c9 A H locs ls hx hb hml hown hts hr hlocks hA hK hP hD hS hZ hl
  have hl : lv_has ls 2 [(0, .ref (h 0)), (1, .int p0)] := hl
  have ht : ∀ w9 ∈ zT, w9.before _ s = true := fun w9 h9 => hts w9 (List.mem_cons_of_mem _ h9)
  refine lv_aload_n hx hb d_P_returnFromTrap_0 rfl (lv_at hl 0 rfl) ?_
  refine va_get (D := D) (ci := 2) (v := .int (st.1 4)) (C := "WindowMachine$Processor") (T := T_P) (N := 18) hx hb ht zi_P hown hK hP 0 rfl rfl 7 (by decide) (ht _ zw_125) (fun _ h9 => h9) rfl d_P_returnFromTrap_1 ?_
  refine lv_if_ne (tgt := 9) hx hb d_P_returnFromTrap_4 (by decide) (fun c_1 => ?_) (fun c_1 => ?_)
  · refine lv_aload_n hx hb d_P_returnFromTrap_9 rfl (lv_at hl 0 rfl) ?_
    refine va_get (D := D) (ci := 2) (v := .int (st.1 6)) (C := "WindowMachine$Processor") (T := T_P) (N := 18) hx hb ht zi_P hown hK hP 0 rfl rfl 9 (by decide) (ht _ zw_127) (fun _ h9 => h9) rfl d_P_returnFromTrap_10 ?_
    refine lv_iconst (v := (1 : Int32)) hx hb d_P_returnFromTrap_13 (by decide) ?_
    refine lv_icmp_ne (tgt := 19) hx hb d_P_returnFromTrap_14 (by decide) (fun c_2 => ?_) (fun c_2 => ?_)
    · refine lv_aload_n hx hb d_P_returnFromTrap_19 rfl (lv_at hl 0 rfl) ?_
      refine lv_aload_n hx hb d_P_returnFromTrap_20 rfl (lv_at hl 0 rfl) ?_
      refine zc_i (w2 := fun _ => wP h c st) (va_runV (As := []) (rest := [.ref (h 0)]) ⟨hx, hb, hml, hown, ht⟩ (mt_P_windowAbove l D h c H.size st) (cwV 0 ht (zgV zw_661 zw_663 zs_42 zw_4 zw_664) rfl rfl rfl kd_P_windowAbove ⟨Nat.le_of_ble_eq_true rfl, Nat.le_of_ble_eq_true rfl⟩) ⟨zw_blind zw_tt, va_recv (hK.sub (tys' := [(c 0, .int), (c 1, .int)]) [0, 1] rfl) (hP.sub (ws' := wP h c st) [0, 1, 2, 3, 4, 5] rfl) (ci := 2) (q0 := 0) rfl rfl, zw_go (hP.sub (ws' := wP h c st) [0, 1, 2, 3, 4, 5] rfl) (hD.sub (ws' := wP h c st) [0, 1, 2, 3, 4, 5] (by decide) rfl) (hK.sub (tys' := [(c 0, .int), (c 1, .int)]) [0, 1] rfl) (fun _ _ _ => trivial)⟩ rfl rfl hl.1 rfl (lv_room (Nat.le_of_ble_eq_true rfl)) d_P_returnFromTrap_21 ⟨Nat.le_of_ble_eq_true rfl, Nat.le_of_ble_eq_true rfl⟩) hP hD hS hA [0, 1, 2, 3, 4, 5] [] [0, 1, 2, 3, 4, 5] rfl rfl (by decide) (by decide) (by decide) (fun _ => rfl) (fun r_3 _ H locs hw hP hD hS => ?_)
      subst hw
      refine zc_i (w2 := fun _ => wP h c st) (va_runV (As := [.int (f_windowAbove st)]) (rest := []) ⟨hx, hb, hml, hown, ht⟩ (mt_P_isInvalid l D h c H.size st (f_windowAbove st)) (cwV 1 ht (zgV zw_665 zw_667 zs_43 zw_4 zw_668) rfl rfl rfl kd_P_isInvalid ⟨Nat.le_of_ble_eq_true rfl, Nat.le_of_ble_eq_true rfl⟩) ⟨zw_blind zw_tt, va_recv (hK.sub (tys' := [(c 0, .int), (c 1, .int)]) [0, 1] rfl) (hP.sub (ws' := wP h c st) [0, 1, 2, 3, 4, 5] rfl) (ci := 2) (q0 := 0) rfl rfl, zw_go (hP.sub (ws' := wP h c st) [0, 1, 2, 3, 4, 5] rfl) (hD.sub (ws' := wP h c st) [0, 1, 2, 3, 4, 5] (by decide) rfl) (hK.sub (tys' := [(c 0, .int), (c 1, .int)]) [0, 1] rfl) (fun _ _ _ => trivial)⟩ rfl rfl hl.1 rfl (lv_room (Nat.le_of_ble_eq_true rfl)) d_P_returnFromTrap_24 ⟨Nat.le_of_ble_eq_true rfl, Nat.le_of_ble_eq_true rfl⟩) hP hD hS hA [0, 1, 2, 3, 4, 5] [] [0, 1, 2, 3, 4, 5] rfl rfl (by decide) (by decide) (by decide) (fun _ => rfl) (fun r_4 _ H locs hw hP hD hS => ?_)
      have er_4 := hw
      refine lv_if_eq (tgt := 33) hx hb d_P_returnFromTrap_27 (by decide) (fun c_5 => ?_) (fun c_5 => ?_)
      · refine lv_iload_n hx hb d_P_returnFromTrap_33 rfl (lv_at hl 1 rfl) ?_
        refine lv_iconst (v := (3 : Int32)) hx hb d_P_returnFromTrap_34 (by decide) ?_
        refine lv_iand hx hb d_P_returnFromTrap_35 ?_
        refine lv_if_eq (tgt := 42) hx hb d_P_returnFromTrap_36 (by decide) (fun c_6 => ?_) (fun c_6 => ?_)
        · refine lv_aload_n hx hb d_P_returnFromTrap_42 rfl (lv_at hl 0 rfl) ?_
          refine lv_iload_n hx hb d_P_returnFromTrap_43 rfl (lv_at hl 1 rfl) ?_
          refine va_put (D := D) (ci := 2) (v := .int p0) (ty := .int) (C := "WindowMachine$Processor") (T := T_P) (N := 18) hx hb ht zi_P ty_P tyok_P nm_P hown hK hP hD hS 0 rfl rfl 13 (by decide) (ht _ zw_131) (fun _ h9 => h9) rfl (by decide +kernel) rfl rfl (Nat.le_of_ble_eq_true rfl) d_P_returnFromTrap_44 (fun H locs hP hD hS => ?_)
          have hP : va_P D vwCl (wP h c (upd st.1 10 p0, st.2.1, st.2.2.1, st.2.2.2)) H := hP
          have hD : va_D A (wP h c (upd st.1 10 p0, st.2.1, st.2.2.1, st.2.2.2)) := hD
          refine lv_aload_n hx hb d_P_returnFromTrap_47 rfl (lv_at hl 0 rfl) ?_
          refine lv_aload_n hx hb d_P_returnFromTrap_48 rfl (lv_at hl 0 rfl) ?_
          refine zc_i (w2 := fun _ => wP h c (upd st.1 10 p0, st.2.1, st.2.2.1, st.2.2.2)) (va_runV (As := []) (rest := [.ref (h 0)]) ⟨hx, hb, hml, hown, ht⟩ (mt_P_windowAbove l D h c H.size (upd st.1 10 p0, st.2.1, st.2.2.1, st.2.2.2)) (cwV 0 ht (zgV zw_661 zw_663 zs_42 zw_4 zw_664) rfl rfl rfl kd_P_windowAbove ⟨Nat.le_of_ble_eq_true rfl, Nat.le_of_ble_eq_true rfl⟩) ⟨zw_blind zw_tt, va_recv (hK.sub (tys' := [(c 0, .int), (c 1, .int)]) [0, 1] rfl) (hP.sub (ws' := wP h c (upd st.1 10 p0, st.2.1, st.2.2.1, st.2.2.2)) [0, 1, 2, 3, 4, 5] rfl) (ci := 2) (q0 := 0) rfl rfl, zw_go (hP.sub (ws' := wP h c (upd st.1 10 p0, st.2.1, st.2.2.1, st.2.2.2)) [0, 1, 2, 3, 4, 5] rfl) (hD.sub (ws' := wP h c (upd st.1 10 p0, st.2.1, st.2.2.1, st.2.2.2)) [0, 1, 2, 3, 4, 5] (by decide) rfl) (hK.sub (tys' := [(c 0, .int), (c 1, .int)]) [0, 1] rfl) (fun _ _ _ => trivial)⟩ rfl rfl hl.1 rfl (lv_room (Nat.le_of_ble_eq_true rfl)) d_P_returnFromTrap_49 ⟨Nat.le_of_ble_eq_true rfl, Nat.le_of_ble_eq_true rfl⟩) hP hD hS hA [0, 1, 2, 3, 4, 5] [] [0, 1, 2, 3, 4, 5] rfl rfl (by decide) (by decide) (by decide) (fun _ => rfl) (fun r_7 _ H locs hw hP hD hS => ?_)
          have er_7 := hw
          refine va_put (D := D) (ci := 2) (v := .int r_7) (ty := .int) (C := "WindowMachine$Processor") (T := T_P) (N := 18) hx hb ht zi_P ty_P tyok_P nm_P hown hK hP hD hS 0 rfl rfl 3 (by decide) (ht _ zw_120) (fun _ h9 => h9) rfl (by decide +kernel) rfl rfl (Nat.le_of_ble_eq_true rfl) d_P_returnFromTrap_52 (fun H locs hP hD hS => ?_)
          have hP : va_P D vwCl (wP h c (upd (upd st.1 10 p0) 0 r_7, st.2.1, st.2.2.1, st.2.2.2)) H := hP
          have hD : va_D A (wP h c (upd (upd st.1 10 p0) 0 r_7, st.2.1, st.2.2.1, st.2.2.2)) := hD
          refine lv_aload_n hx hb d_P_returnFromTrap_55 rfl (lv_at hl 0 rfl) ?_
          refine lv_aload_n hx hb d_P_returnFromTrap_56 rfl (lv_at hl 0 rfl) ?_
          refine va_get (D := D) (ci := 2) (v := .int (st.1 5)) (C := "WindowMachine$Processor") (T := T_P) (N := 18) hx hb ht zi_P hown hK hP 0 rfl rfl 8 (by decide) (ht _ zw_126) (fun _ h9 => h9) rfl d_P_returnFromTrap_57 ?_
          refine lv_aload_n hx hb d_P_returnFromTrap_60 rfl (lv_at hl 0 rfl) ?_
          refine va_get (D := D) (ci := 2) (v := .int (st.1 5)) (C := "WindowMachine$Processor") (T := T_P) (N := 18) hx hb ht zi_P hown hK hP 0 rfl rfl 8 (by decide) (ht _ zw_126) (fun _ h9 => h9) rfl d_P_returnFromTrap_61 ?_
          refine lv_iconst (v := (1 : Int32)) hx hb d_P_returnFromTrap_64 (by decide) ?_
          refine zc_v (w2 := fun u9 => wP h c u9) (va_runV (As := [.int (st.1 5), .int (st.1 5), .int (1 : Int32)]) (rest := []) ⟨hx, hb, hml, hown, ht⟩ (mt_P_changeMode l D h c H.size (upd (upd st.1 10 p0) 0 r_7, st.2.1, st.2.2.1, st.2.2.2) (st.1 5) (st.1 5) (1 : Int32)) (cwV 3 ht (zgV zw_112 zw_114 zs_0 zw_4 zw_115) rfl rfl rfl kd_P_changeMode ⟨Nat.le_of_ble_eq_true rfl, Nat.le_of_ble_eq_true rfl⟩) ⟨zw_blind zw_tt, va_recv (hK.sub (tys' := [(c 0, .int), (c 1, .int)]) [0, 1] rfl) (hP.sub (ws' := wP h c (upd (upd st.1 10 p0) 0 r_7, st.2.1, st.2.2.1, st.2.2.2)) [0, 1, 2, 3, 4, 5] rfl) (ci := 2) (q0 := 0) rfl rfl, zw_go (hP.sub (ws' := wP h c (upd (upd st.1 10 p0) 0 r_7, st.2.1, st.2.2.1, st.2.2.2)) [0, 1, 2, 3, 4, 5] rfl) (hD.sub (ws' := wP h c (upd (upd st.1 10 p0) 0 r_7, st.2.1, st.2.2.1, st.2.2.2)) [0, 1, 2, 3, 4, 5] (by decide) rfl) (hK.sub (tys' := [(c 0, .int), (c 1, .int)]) [0, 1] rfl) (fun _ _ _ => trivial)⟩ rfl rfl hl.1 rfl (lv_room (Nat.le_of_ble_eq_true rfl)) d_P_returnFromTrap_65 ⟨Nat.le_of_ble_eq_true rfl, Nat.le_of_ble_eq_true rfl⟩) hP hD hS hA [0, 1, 2, 3, 4, 5] [] [0, 1, 2, 3, 4, 5] rfl rfl (by decide) (by decide) (by decide) (fun _ => rfl) (fun u_8 H locs hw hP hD hS => ?_)
          have eu_8 := hw
          refine lv_iconst (v := (-1 : Int32)) hx hb d_P_returnFromTrap_68 (by decide) ?_
          exact zl_i (u := u_8) hx hb hr hlocks hS hP hD (⟨by subst er_4; subst er_7; subst eu_8; simp only [f_returnFromTrap, if_neg c_1, if_neg c_2, if_pos c_5, if_pos c_6], by subst er_4; subst er_7; subst eu_8; simp only [f_returnFromTrap, if_neg c_1, if_neg c_2, if_pos c_5, if_pos c_6]⟩) d_P_returnFromTrap_69
        refine lv_bipush (v := (7 : Int32)) hx hb d_P_returnFromTrap_39 (by decide) ?_
        exact zl_i (u := st) hx hb hr hlocks hS hP hD (⟨by subst er_4; simp only [f_returnFromTrap, if_neg c_1, if_neg c_2, if_pos c_5, if_neg c_6], by subst er_4; simp only [f_returnFromTrap, if_neg c_1, if_neg c_2, if_pos c_5, if_neg c_6]⟩) d_P_returnFromTrap_41
      refine lv_bipush (v := (6 : Int32)) hx hb d_P_returnFromTrap_30 (by decide) ?_
      exact zl_i (u := st) hx hb hr hlocks hS hP hD (⟨by subst er_4; simp only [f_returnFromTrap, if_neg c_1, if_neg c_2, if_neg c_5], by subst er_4; simp only [f_returnFromTrap, if_neg c_1, if_neg c_2, if_neg c_5]⟩) d_P_returnFromTrap_32
    refine lv_iconst (v := (2 : Int32)) hx hb d_P_returnFromTrap_17 (by decide) ?_
    exact zl_i (u := st) hx hb hr hlocks hS hP hD (⟨by simp only [f_returnFromTrap, if_neg c_1, if_pos c_2], by simp only [f_returnFromTrap, if_neg c_1, if_pos c_2]⟩) d_P_returnFromTrap_18
  refine lv_iconst (v := (3 : Int32)) hx hb d_P_returnFromTrap_7 (by decide) ?_
  exact zl_i (u := st) hx hb hr hlocks hS hP hD (⟨by simp only [f_returnFromTrap, if_pos c_1], by simp only [f_returnFromTrap, if_pos c_1]⟩) d_P_returnFromTrap_8
theorem d_P_moveWindow_0 : decode c_P_moveWindow 0 = .ok (.aload_n 0, 1) := by decide +kernel
theorem d_P_moveWindow_1 : decode c_P_moveWindow 1 = .ok (.iload_n 2, 1) := by decide +kernel
theorem d_P_moveWindow_2 : decode c_P_moveWindow 2 = .ok (.invokevirtual 203, 3) := by decide +kernel
theorem d_P_moveWindow_5 : decode c_P_moveWindow 5 = .ok (.ifCond .eq 5, 3) := by decide +kernel
theorem d_P_moveWindow_8 : decode c_P_moveWindow 8 = .ok (.iload_n 3, 1) := by decide +kernel
theorem d_P_moveWindow_9 : decode c_P_moveWindow 9 = .ok (.ireturn, 1) := by decide +kernel
theorem d_P_moveWindow_10 : decode c_P_moveWindow 10 = .ok (.aload_n 0, 1) := by decide +kernel
theorem d_P_moveWindow_11 : decode c_P_moveWindow 11 = .ok (.iload_n 2, 1) := by decide +kernel
theorem d_P_moveWindow_12 : decode c_P_moveWindow 12 = .ok (.putfield 36, 3) := by decide +kernel
theorem d_P_moveWindow_15 : decode c_P_moveWindow 15 = .ok (.aload_n 0, 1) := by decide +kernel
theorem d_P_moveWindow_16 : decode c_P_moveWindow 16 = .ok (.iload_n 1, 1) := by decide +kernel
theorem d_P_moveWindow_17 : decode c_P_moveWindow 17 = .ok (.iload 4, 2) := by decide +kernel
theorem d_P_moveWindow_19 : decode c_P_moveWindow 19 = .ok (.invokevirtual 130, 3) := by decide +kernel
theorem d_P_moveWindow_22 : decode c_P_moveWindow 22 = .ok (.ireturn, 1) := by decide +kernel
theorem kd_P_moveWindow : (y_P_moveWindow).cls = "WindowMachine$Processor" ∧ (y_P_moveWindow).cls ≠ "java/lang/invoke/MethodHandle" ∧ (y_P_moveWindow).cls ≠ "java/lang/invoke/VarHandle" ∧ (parseMethodDescriptor (y_P_moveWindow).desc).map (fun d => d.parameters.length) = some 4 := by decide +kernel
def f_moveWindow (st : SP) (p0 : Int32) (p1 : Int32) (p2 : Int32) (p3 : Int32) : Int32 × SP := (if (f_isInvalid st p1) = (0 : Int32) then (let r_3 := (f_deliver (upd st.1 0 p1, st.2.1, st.2.2.1, st.2.2.2) p0 p3).1; (let u_3 := (f_deliver (upd st.1 0 p1, st.2.1, st.2.2.1, st.2.2.2) p0 p3).2; (r_3, u_3))) else (p2, st))
set_option maxHeartbeats 4000000 in
set_option maxRecDepth 100000 in
theorem mt_P_moveWindow (l : Launch) (D : va_G) (h : Nat → Nat) (c : Nat → ClassId) (sz : Nat) (st : SP) (p0 : Int32) (p1 : Int32) (p2 : Int32) (p3 : Int32) (hT : vp_in p1 4) : Met l y_P_moveWindow w_P_moveWindow ({ frames := 3, cells := 0, slots := 0, locals := 66 }) (va_Pc [.ref (h 0), .int p0, .int p1, .int p2, .int p3] (zw_pre D vwCl [(c 0, .int), (c 1, .int)] sz (wP h c st) (fun _ => True))) (va_Qi (fun r (u : SP) => r = (f_moveWindow st p0 p1 p2 p3).1 ∧ u = (f_moveWindow st p0 p1 p2 p3).2) (fun u t => zw_at D vwCl (va_A (wP h c st) sz) ((fun (u : SP) => wP h c u) u) t) (va_A (wP h c st) sz)) 0 0 (va_A (wP h c st) sz) := by
  refine zm (Qf := fun A => va_Qi (fun r (u : SP) => r = (f_moveWindow st p0 p1 p2 p3).1 ∧ u = (f_moveWindow st p0 p1 p2 p3).2) (fun u t => zw_at D vwCl A ((fun (u : SP) => wP h c u) u) t) A) (Zf := fun _ _ => True) (cc := c_P_moveWindow) (nL := 5) (ret := (some .int)) (by decide) rfl (Nat.le_of_ble_eq_true rfl) ?_
  intro p e s m below meth c9 A H locs ls hx hb hml hown hts hr hlocks hA hK hP hD hS hZ hl
  have hl : lv_has ls 5 [(0, .ref (h 0)), (1, .int p0), (2, .int p1), (3, .int p2), (4, .int p3)] := hl
  have ht : ∀ w9 ∈ zT, w9.before _ s = true := fun w9 h9 => hts w9 (List.mem_cons_of_mem _ h9)
  refine lv_aload_n hx hb d_P_moveWindow_0 rfl (lv_at hl 0 rfl) ?_
  refine lv_iload_n hx hb d_P_moveWindow_1 rfl (lv_at hl 2 rfl) ?_
  refine zc_i (w2 := fun _ => wP h c st) (va_runV (As := [.int p1]) (rest := []) ⟨hx, hb, hml, hown, ht⟩ (mt_P_isInvalid l D h c H.size st p1) (cwV 1 ht (zgV zw_665 zw_667 zs_43 zw_4 zw_668) rfl rfl rfl kd_P_isInvalid ⟨Nat.le_of_ble_eq_true rfl, Nat.le_of_ble_eq_true rfl⟩) ⟨zw_blind zw_tt, va_recv (hK.sub (tys' := [(c 0, .int), (c 1, .int)]) [0, 1] rfl) (hP.sub (ws' := wP h c st) [0, 1, 2, 3, 4, 5] rfl) (ci := 2) (q0 := 0) rfl rfl, zw_go (hP.sub (ws' := wP h c st) [0, 1, 2, 3, 4, 5] rfl) (hD.sub (ws' := wP h c st) [0, 1, 2, 3, 4, 5] (by decide) rfl) (hK.sub (tys' := [(c 0, .int), (c 1, .int)]) [0, 1] rfl) (fun _ _ _ => trivial)⟩ rfl rfl hl.1 rfl (lv_room (Nat.le_of_ble_eq_true rfl)) d_P_moveWindow_2 ⟨Nat.le_of_ble_eq_true rfl, Nat.le_of_ble_eq_true rfl⟩) hP hD hS hA [0, 1, 2, 3, 4, 5] [] [0, 1, 2, 3, 4, 5] rfl rfl (by decide) (by decide) (by decide) (fun _ => rfl) (fun r_1 _ H locs hw hP hD hS => ?_)
  subst hw
  refine lv_if_eq (tgt := 10) hx hb d_P_moveWindow_5 (by decide) (fun c_2 => ?_) (fun c_2 => ?_)
  · refine lv_aload_n hx hb d_P_moveWindow_10 rfl (lv_at hl 0 rfl) ?_
    refine lv_iload_n hx hb d_P_moveWindow_11 rfl (lv_at hl 2 rfl) ?_
    refine va_put (D := D) (ci := 2) (v := .int p1) (ty := .int) (C := "WindowMachine$Processor") (T := T_P) (N := 18) hx hb ht zi_P ty_P tyok_P nm_P hown hK hP hD hS 0 rfl rfl 3 (by decide) (ht _ zw_120) (fun _ h9 => h9) rfl (by decide +kernel) rfl rfl (Nat.le_of_ble_eq_true rfl) d_P_moveWindow_12 (fun H locs hP hD hS => ?_)
    have hP : va_P D vwCl (wP h c (upd st.1 0 p1, st.2.1, st.2.2.1, st.2.2.2)) H := hP
    have hD : va_D A (wP h c (upd st.1 0 p1, st.2.1, st.2.2.1, st.2.2.2)) := hD
    refine lv_aload_n hx hb d_P_moveWindow_15 rfl (lv_at hl 0 rfl) ?_
    refine lv_iload_n hx hb d_P_moveWindow_16 rfl (lv_at hl 1 rfl) ?_
    refine lv_iload hx hb d_P_moveWindow_17 (lv_at hl 4 rfl) ?_
    refine zc_i (w2 := fun u9 => wP h c u9) (va_runV (As := [.int p0, .int p3]) (rest := []) ⟨hx, hb, hml, hown, ht⟩ (mt_P_deliver l D h c H.size (upd st.1 0 p1, st.2.1, st.2.2.1, st.2.2.2) p0 p3 hT) (cwV 2 ht (zgV zw_546 zw_548 zs_26 zw_4 zw_549) rfl rfl rfl kd_P_deliver ⟨Nat.le_of_ble_eq_true rfl, Nat.le_of_ble_eq_true rfl⟩) ⟨zw_blind zw_tt, va_recv (hK.sub (tys' := [(c 0, .int), (c 1, .int)]) [0, 1] rfl) (hP.sub (ws' := wP h c (upd st.1 0 p1, st.2.1, st.2.2.1, st.2.2.2)) [0, 1, 2, 3, 4, 5] rfl) (ci := 2) (q0 := 0) rfl rfl, zw_go (hP.sub (ws' := wP h c (upd st.1 0 p1, st.2.1, st.2.2.1, st.2.2.2)) [0, 1, 2, 3, 4, 5] rfl) (hD.sub (ws' := wP h c (upd st.1 0 p1, st.2.1, st.2.2.1, st.2.2.2)) [0, 1, 2, 3, 4, 5] (by decide) rfl) (hK.sub (tys' := [(c 0, .int), (c 1, .int)]) [0, 1] rfl) (fun _ _ _ => trivial)⟩ rfl rfl hl.1 rfl (lv_room (Nat.le_of_ble_eq_true rfl)) d_P_moveWindow_19 ⟨Nat.le_of_ble_eq_true rfl, Nat.le_of_ble_eq_true rfl⟩) hP hD hS hA [0, 1, 2, 3, 4, 5] [] [0, 1, 2, 3, 4, 5] rfl rfl (by decide) (by decide) (by decide) (fun _ => rfl) (fun r_3 u_3 H locs hw hP hD hS => ?_)
    obtain ⟨er_3, eu_3⟩ := hw
    exact zl_i (u := u_3) hx hb hr hlocks hS hP hD (⟨by subst er_3; subst eu_3; simp only [f_moveWindow, if_pos c_2], by subst er_3; subst eu_3; simp only [f_moveWindow, if_pos c_2]⟩) d_P_moveWindow_22
  refine lv_iload_n hx hb d_P_moveWindow_8 rfl (lv_at hl 3 rfl) ?_
  exact zl_i (u := st) hx hb hr hlocks hS hP hD (⟨by simp only [f_moveWindow, if_neg c_2], by simp only [f_moveWindow, if_neg c_2]⟩) d_P_moveWindow_9
theorem d_P_takeTrap_0 : decode c_P_takeTrap 0 = .ok (.aload_n 0, 1) := by decide +kernel
theorem d_P_takeTrap_1 : decode c_P_takeTrap 1 = .ok (.dup, 1) := by decide +kernel
theorem d_P_takeTrap_2 : decode c_P_takeTrap 2 = .ok (.getfield 60, 3) := by decide +kernel
theorem d_P_takeTrap_5 : decode c_P_takeTrap 5 = .ok (.iconst 1, 1) := by decide +kernel
theorem d_P_takeTrap_6 : decode c_P_takeTrap 6 = .ok (.iadd, 1) := by decide +kernel
theorem d_P_takeTrap_7 : decode c_P_takeTrap 7 = .ok (.putfield 60, 3) := by decide +kernel
theorem d_P_takeTrap_10 : decode c_P_takeTrap 10 = .ok (.aload_n 0, 1) := by decide +kernel
theorem d_P_takeTrap_11 : decode c_P_takeTrap 11 = .ok (.getfield 85, 3) := by decide +kernel
theorem d_P_takeTrap_14 : decode c_P_takeTrap 14 = .ok (.ifCond .ne 9, 3) := by decide +kernel
theorem d_P_takeTrap_17 : decode c_P_takeTrap 17 = .ok (.aload_n 0, 1) := by decide +kernel
theorem d_P_takeTrap_18 : decode c_P_takeTrap 18 = .ok (.iload_n 1, 1) := by decide +kernel
theorem d_P_takeTrap_19 : decode c_P_takeTrap 19 = .ok (.putfield 54, 3) := by decide +kernel
theorem d_P_takeTrap_22 : decode c_P_takeTrap 22 = .ok (.return_, 1) := by decide +kernel
theorem d_P_takeTrap_23 : decode c_P_takeTrap 23 = .ok (.aload_n 0, 1) := by decide +kernel
theorem d_P_takeTrap_24 : decode c_P_takeTrap 24 = .ok (.iconst 1, 1) := by decide +kernel
theorem d_P_takeTrap_25 : decode c_P_takeTrap 25 = .ok (.aload_n 0, 1) := by decide +kernel
theorem d_P_takeTrap_26 : decode c_P_takeTrap 26 = .ok (.getfield 79, 3) := by decide +kernel
theorem d_P_takeTrap_29 : decode c_P_takeTrap 29 = .ok (.iconst 0, 1) := by decide +kernel
theorem d_P_takeTrap_30 : decode c_P_takeTrap 30 = .ok (.invokevirtual 75, 3) := by decide +kernel
theorem d_P_takeTrap_33 : decode c_P_takeTrap 33 = .ok (.aload_n 0, 1) := by decide +kernel
theorem d_P_takeTrap_34 : decode c_P_takeTrap 34 = .ok (.aload_n 0, 1) := by decide +kernel
theorem d_P_takeTrap_35 : decode c_P_takeTrap 35 = .ok (.invokevirtual 98, 3) := by decide +kernel
theorem d_P_takeTrap_38 : decode c_P_takeTrap 38 = .ok (.putfield 36, 3) := by decide +kernel
theorem d_P_takeTrap_41 : decode c_P_takeTrap 41 = .ok (.aload_n 0, 1) := by decide +kernel
theorem d_P_takeTrap_42 : decode c_P_takeTrap 42 = .ok (.getfield 18, 3) := by decide +kernel
theorem d_P_takeTrap_45 : decode c_P_takeTrap 45 = .ok (.aload_n 0, 1) := by decide +kernel
theorem d_P_takeTrap_46 : decode c_P_takeTrap 46 = .ok (.getfield 36, 3) := by decide +kernel
theorem d_P_takeTrap_49 : decode c_P_takeTrap 49 = .ok (.bipush 17, 2) := by decide +kernel
theorem d_P_takeTrap_51 : decode c_P_takeTrap 51 = .ok (.aload_n 0, 1) := by decide +kernel
theorem d_P_takeTrap_52 : decode c_P_takeTrap 52 = .ok (.getfield 44, 3) := by decide +kernel
theorem d_P_takeTrap_55 : decode c_P_takeTrap 55 = .ok (.invokevirtual 101, 3) := by decide +kernel
theorem d_P_takeTrap_58 : decode c_P_takeTrap 58 = .ok (.aload_n 0, 1) := by decide +kernel
theorem d_P_takeTrap_59 : decode c_P_takeTrap 59 = .ok (.getfield 18, 3) := by decide +kernel
theorem d_P_takeTrap_62 : decode c_P_takeTrap 62 = .ok (.aload_n 0, 1) := by decide +kernel
theorem d_P_takeTrap_63 : decode c_P_takeTrap 63 = .ok (.getfield 36, 3) := by decide +kernel
theorem d_P_takeTrap_66 : decode c_P_takeTrap 66 = .ok (.bipush 18, 2) := by decide +kernel
theorem d_P_takeTrap_68 : decode c_P_takeTrap 68 = .ok (.aload_n 0, 1) := by decide +kernel
theorem d_P_takeTrap_69 : decode c_P_takeTrap 69 = .ok (.getfield 47, 3) := by decide +kernel
theorem d_P_takeTrap_72 : decode c_P_takeTrap 72 = .ok (.invokevirtual 101, 3) := by decide +kernel
theorem d_P_takeTrap_75 : decode c_P_takeTrap 75 = .ok (.aload_n 0, 1) := by decide +kernel
theorem d_P_takeTrap_76 : decode c_P_takeTrap 76 = .ok (.aload_n 0, 1) := by decide +kernel
theorem d_P_takeTrap_77 : decode c_P_takeTrap 77 = .ok (.getfield 72, 3) := by decide +kernel
theorem d_P_takeTrap_80 : decode c_P_takeTrap 80 = .ok (.bipush 16, 2) := by decide +kernel
theorem d_P_takeTrap_82 : decode c_P_takeTrap 82 = .ok (.iload_n 1, 1) := by decide +kernel
theorem d_P_takeTrap_83 : decode c_P_takeTrap 83 = .ok (.imul, 1) := by decide +kernel
theorem d_P_takeTrap_84 : decode c_P_takeTrap 84 = .ok (.iadd, 1) := by decide +kernel
theorem d_P_takeTrap_85 : decode c_P_takeTrap 85 = .ok (.putfield 44, 3) := by decide +kernel
theorem d_P_takeTrap_88 : decode c_P_takeTrap 88 = .ok (.aload_n 0, 1) := by decide +kernel
theorem d_P_takeTrap_89 : decode c_P_takeTrap 89 = .ok (.aload_n 0, 1) := by decide +kernel
theorem d_P_takeTrap_90 : decode c_P_takeTrap 90 = .ok (.getfield 44, 3) := by decide +kernel
theorem d_P_takeTrap_93 : decode c_P_takeTrap 93 = .ok (.iconst 4, 1) := by decide +kernel
theorem d_P_takeTrap_94 : decode c_P_takeTrap 94 = .ok (.iadd, 1) := by decide +kernel
theorem d_P_takeTrap_95 : decode c_P_takeTrap 95 = .ok (.putfield 47, 3) := by decide +kernel
theorem d_P_takeTrap_98 : decode c_P_takeTrap 98 = .ok (.return_, 1) := by decide +kernel
theorem kd_P_takeTrap : (y_P_takeTrap).cls = "WindowMachine$Processor" ∧ (y_P_takeTrap).cls ≠ "java/lang/invoke/MethodHandle" ∧ (y_P_takeTrap).cls ≠ "java/lang/invoke/VarHandle" ∧ (parseMethodDescriptor (y_P_takeTrap).desc).map (fun d => d.parameters.length) = some 1 := by decide +kernel
def f_takeTrap (st : SP) (p0 : Int32) : SP := (if (st.1 6) = (0 : Int32) then (upd (upd st.1 14 ((st.1 14) + (1 : Int32))) 12 p0, st.2.1, st.2.2.1, st.2.2.2) else (let u_2 := f_changeMode (upd st.1 14 ((st.1 14) + (1 : Int32)), st.2.1, st.2.2.1, st.2.2.2) (1 : Int32) (st.1 4) (0 : Int32); (let u_4 := f_rwrite u_2.2.2.1 (f_windowBelow u_2) (17 : Int32) (u_2.1 8); (let u_5 := f_rwrite u_4 (f_windowBelow u_2) (18 : Int32) (u_2.1 9); (upd (upd (upd u_2.1 0 (f_windowBelow u_2)) 8 ((u_2.1 7) + ((16 : Int32) * p0))) 9 (((u_2.1 7) + ((16 : Int32) * p0)) + (4 : Int32)), u_2.2.1, u_5, u_2.2.2.2)))))
set_option maxHeartbeats 4000000 in
set_option maxRecDepth 100000 in
theorem mt_P_takeTrap (l : Launch) (D : va_G) (h : Nat → Nat) (c : Nat → ClassId) (sz : Nat) (st : SP) (p0 : Int32) (hW : vp_in (st.1 0) 4) : Met l y_P_takeTrap w_P_takeTrap ({ frames := 2, cells := 0, slots := 0, locals := 44 }) (va_Pc [.ref (h 0), .int p0] (zw_pre D vwCl [(c 0, .int), (c 1, .int)] sz (wP h c st) (fun _ => True))) (va_Qv (fun (u : SP) => u = f_takeTrap st p0) (fun u t => zw_at D vwCl (va_A (wP h c st) sz) ((fun (u : SP) => wP h c u) u) t) (va_A (wP h c st) sz)) 0 0 (va_A (wP h c st) sz) := by
  refine zm (Qf := fun A => va_Qv (fun (u : SP) => u = f_takeTrap st p0) (fun u t => zw_at D vwCl A ((fun (u : SP) => wP h c u) u) t) A) (Zf := fun _ _ => True) (cc := c_P_takeTrap) (nL := 2) (ret := none) (by decide) rfl (Nat.le_of_ble_eq_true rfl) ?_
  intro p e s m below meth c9 A H locs ls hx hb hml hown hts hr hlocks hA hK hP hD hS hZ hl
  have hl : lv_has ls 2 [(0, .ref (h 0)), (1, .int p0)] := hl
  have ht : ∀ w9 ∈ zT, w9.before _ s = true := fun w9 h9 => hts w9 (List.mem_cons_of_mem _ h9)
  refine lv_aload_n hx hb d_P_takeTrap_0 rfl (lv_at hl 0 rfl) ?_
  refine lv_dup hx hb d_P_takeTrap_1 rfl ?_
  refine va_get (D := D) (ci := 2) (v := .int (st.1 14)) (C := "WindowMachine$Processor") (T := T_P) (N := 18) hx hb ht zi_P hown hK hP 0 rfl rfl 17 (by decide) (ht _ zw_136) (fun _ h9 => h9) rfl d_P_takeTrap_2 ?_
  refine lv_iconst (v := (1 : Int32)) hx hb d_P_takeTrap_5 (by decide) ?_
  refine lv_iadd hx hb d_P_takeTrap_6 ?_
  refine va_put (D := D) (ci := 2) (v := .int ((st.1 14) + (1 : Int32))) (ty := .int) (C := "WindowMachine$Processor") (T := T_P) (N := 18) hx hb ht zi_P ty_P tyok_P nm_P hown hK hP hD hS 0 rfl rfl 17 (by decide) (ht _ zw_136) (fun _ h9 => h9) rfl (by decide +kernel) rfl rfl (Nat.le_of_ble_eq_true rfl) d_P_takeTrap_7 (fun H locs hP hD hS => ?_)
  have hP : va_P D vwCl (wP h c (upd st.1 14 ((st.1 14) + (1 : Int32)), st.2.1, st.2.2.1, st.2.2.2)) H := hP
  have hD : va_D A (wP h c (upd st.1 14 ((st.1 14) + (1 : Int32)), st.2.1, st.2.2.1, st.2.2.2)) := hD
  refine lv_aload_n hx hb d_P_takeTrap_10 rfl (lv_at hl 0 rfl) ?_
  refine va_get (D := D) (ci := 2) (v := .int (st.1 6)) (C := "WindowMachine$Processor") (T := T_P) (N := 18) hx hb ht zi_P hown hK hP 0 rfl rfl 9 (by decide) (ht _ zw_127) (fun _ h9 => h9) rfl d_P_takeTrap_11 ?_
  refine lv_if_ne (tgt := 23) hx hb d_P_takeTrap_14 (by decide) (fun c_1 => ?_) (fun c_1 => ?_)
  · refine lv_aload_n hx hb d_P_takeTrap_23 rfl (lv_at hl 0 rfl) ?_
    refine lv_iconst (v := (1 : Int32)) hx hb d_P_takeTrap_24 (by decide) ?_
    refine lv_aload_n hx hb d_P_takeTrap_25 rfl (lv_at hl 0 rfl) ?_
    refine va_get (D := D) (ci := 2) (v := .int (st.1 4)) (C := "WindowMachine$Processor") (T := T_P) (N := 18) hx hb ht zi_P hown hK hP 0 rfl rfl 7 (by decide) (ht _ zw_125) (fun _ h9 => h9) rfl d_P_takeTrap_26 ?_
    refine lv_iconst (v := (0 : Int32)) hx hb d_P_takeTrap_29 (by decide) ?_
    refine zc_v (w2 := fun u9 => wP h c u9) (va_runV (As := [.int (1 : Int32), .int (st.1 4), .int (0 : Int32)]) (rest := []) ⟨hx, hb, hml, hown, ht⟩ (mt_P_changeMode l D h c H.size (upd st.1 14 ((st.1 14) + (1 : Int32)), st.2.1, st.2.2.1, st.2.2.2) (1 : Int32) (st.1 4) (0 : Int32)) (cwV 3 ht (zgV zw_112 zw_114 zs_0 zw_4 zw_115) rfl rfl rfl kd_P_changeMode ⟨Nat.le_of_ble_eq_true rfl, Nat.le_of_ble_eq_true rfl⟩) ⟨zw_blind zw_tt, va_recv (hK.sub (tys' := [(c 0, .int), (c 1, .int)]) [0, 1] rfl) (hP.sub (ws' := wP h c (upd st.1 14 ((st.1 14) + (1 : Int32)), st.2.1, st.2.2.1, st.2.2.2)) [0, 1, 2, 3, 4, 5] rfl) (ci := 2) (q0 := 0) rfl rfl, zw_go (hP.sub (ws' := wP h c (upd st.1 14 ((st.1 14) + (1 : Int32)), st.2.1, st.2.2.1, st.2.2.2)) [0, 1, 2, 3, 4, 5] rfl) (hD.sub (ws' := wP h c (upd st.1 14 ((st.1 14) + (1 : Int32)), st.2.1, st.2.2.1, st.2.2.2)) [0, 1, 2, 3, 4, 5] (by decide) rfl) (hK.sub (tys' := [(c 0, .int), (c 1, .int)]) [0, 1] rfl) (fun _ _ _ => trivial)⟩ rfl rfl hl.1 rfl (lv_room (Nat.le_of_ble_eq_true rfl)) d_P_takeTrap_30 ⟨Nat.le_of_ble_eq_true rfl, Nat.le_of_ble_eq_true rfl⟩) hP hD hS hA [0, 1, 2, 3, 4, 5] [] [0, 1, 2, 3, 4, 5] rfl rfl (by decide) (by decide) (by decide) (fun _ => rfl) (fun u_2 H locs hw hP hD hS => ?_)
    have eu_2 := hw
    refine lv_aload_n hx hb d_P_takeTrap_33 rfl (lv_at hl 0 rfl) ?_
    refine lv_aload_n hx hb d_P_takeTrap_34 rfl (lv_at hl 0 rfl) ?_
    refine zc_i (w2 := fun _ => wP h c u_2) (va_runV (As := []) (rest := [.ref (h 0)]) ⟨hx, hb, hml, hown, ht⟩ (mt_P_windowBelow l D h c H.size u_2) (cwV 0 ht (zgV zw_669 zw_671 zs_44 zw_4 zw_672) rfl rfl rfl kd_P_windowBelow ⟨Nat.le_of_ble_eq_true rfl, Nat.le_of_ble_eq_true rfl⟩) ⟨zw_blind zw_tt, va_recv (hK.sub (tys' := [(c 0, .int), (c 1, .int)]) [0, 1] rfl) (hP.sub (ws' := wP h c u_2) [0, 1, 2, 3, 4, 5] rfl) (ci := 2) (q0 := 0) rfl rfl, zw_go (hP.sub (ws' := wP h c u_2) [0, 1, 2, 3, 4, 5] rfl) (hD.sub (ws' := wP h c u_2) [0, 1, 2, 3, 4, 5] (by decide) rfl) (hK.sub (tys' := [(c 0, .int), (c 1, .int)]) [0, 1] rfl) (fun _ _ _ => trivial)⟩ rfl rfl hl.1 rfl (lv_room (Nat.le_of_ble_eq_true rfl)) d_P_takeTrap_35 ⟨Nat.le_of_ble_eq_true rfl, Nat.le_of_ble_eq_true rfl⟩) hP hD hS hA [0, 1, 2, 3, 4, 5] [] [0, 1, 2, 3, 4, 5] rfl rfl (by decide) (by decide) (by decide) (fun _ => rfl) (fun r_3 _ H locs hw hP hD hS => ?_)
    subst hw
    refine va_put (D := D) (ci := 2) (v := .int (f_windowBelow u_2)) (ty := .int) (C := "WindowMachine$Processor") (T := T_P) (N := 18) hx hb ht zi_P ty_P tyok_P nm_P hown hK hP hD hS 0 rfl rfl 3 (by decide) (ht _ zw_120) (fun _ h9 => h9) rfl (by decide +kernel) rfl rfl (Nat.le_of_ble_eq_true rfl) d_P_takeTrap_38 (fun H locs hP hD hS => ?_)
    have hP : va_P D vwCl (wP h c (upd u_2.1 0 (f_windowBelow u_2), u_2.2.1, u_2.2.2.1, u_2.2.2.2)) H := hP
    have hD : va_D A (wP h c (upd u_2.1 0 (f_windowBelow u_2), u_2.2.1, u_2.2.2.1, u_2.2.2.2)) := hD
    refine lv_aload_n hx hb d_P_takeTrap_41 rfl (lv_at hl 0 rfl) ?_
    refine va_get (D := D) (ci := 2) (v := .ref (h 3)) (C := "WindowMachine$Processor") (T := T_P) (N := 18) hx hb ht zi_P hown hK hP 0 rfl rfl 1 (by decide) (ht _ zw_117) (fun _ h9 => h9) rfl d_P_takeTrap_42 ?_
    refine lv_aload_n hx hb d_P_takeTrap_45 rfl (lv_at hl 0 rfl) ?_
    refine va_get (D := D) (ci := 2) (v := .int (f_windowBelow u_2)) (C := "WindowMachine$Processor") (T := T_P) (N := 18) hx hb ht zi_P hown hK hP 0 rfl rfl 3 (by decide) (ht _ zw_120) (fun _ h9 => h9) rfl d_P_takeTrap_46 ?_
    refine lv_bipush (v := (17 : Int32)) hx hb d_P_takeTrap_49 (by decide) ?_
    refine lv_aload_n hx hb d_P_takeTrap_51 rfl (lv_at hl 0 rfl) ?_
    refine va_get (D := D) (ci := 2) (v := .int (u_2.1 8)) (C := "WindowMachine$Processor") (T := T_P) (N := 18) hx hb ht zi_P hown hK hP 0 rfl rfl 11 (by decide) (ht _ zw_129) (fun _ h9 => h9) rfl d_P_takeTrap_52 ?_
    refine zc_v (w2 := fun u9 => wP h c (upd u_2.1 0 (f_windowBelow u_2), u_2.2.1, u9, u_2.2.2.2)) (va_runV (As := [.int (f_windowBelow u_2), .int (17 : Int32), .int (u_2.1 8)]) (rest := []) ⟨hx, hb, hml, hown, ht⟩ (mt_R_write l D (h 3) (h 4) (c 1) H.size u_2.2.2.1 (f_windowBelow u_2) (17 : Int32) (u_2.1 8) (wb_in (by rw [eu_2]; exact hW)) (by unfold vp_in; decide)) (cwV 3 ht (zgV zw_553 zw_554 zw_555 zw_5 zw_556) rfl rfl rfl kd_R_write ⟨Nat.le_of_ble_eq_true rfl, Nat.le_of_ble_eq_true rfl⟩) ⟨zw_blind zw_tt, va_recv (hK.sub (tys' := [((c 1), .int)]) [1] rfl) (hP.sub (ws' := wR (h 3) (h 4) (c 1) u_2.2.2.1) [3, 4] rfl) (ci := 4) (q0 := 0) rfl rfl, zw_go (hP.sub (ws' := wR (h 3) (h 4) (c 1) u_2.2.2.1) [3, 4] rfl) (hD.sub (ws' := wR (h 3) (h 4) (c 1) u_2.2.2.1) [3, 4] (by decide) rfl) (hK.sub (tys' := [((c 1), .int)]) [1] rfl) (fun _ _ _ => trivial)⟩ rfl rfl hl.1 rfl (lv_room (Nat.le_of_ble_eq_true rfl)) d_P_takeTrap_55 ⟨Nat.le_of_ble_eq_true rfl, Nat.le_of_ble_eq_true rfl⟩) hP hD hS hA [3, 4] [0, 1, 2, 5] [0, 1, 2, 4, 5, 3] rfl rfl (by decide) (by decide) (by decide) (fun _ => rfl) (fun u_4 H locs hw hP hD hS => ?_)
    have eu_4 := hw
    refine lv_aload_n hx hb d_P_takeTrap_58 rfl (lv_at hl 0 rfl) ?_
    refine va_get (D := D) (ci := 2) (v := .ref (h 3)) (C := "WindowMachine$Processor") (T := T_P) (N := 18) hx hb ht zi_P hown hK hP 0 rfl rfl 1 (by decide) (ht _ zw_117) (fun _ h9 => h9) rfl d_P_takeTrap_59 ?_
    refine lv_aload_n hx hb d_P_takeTrap_62 rfl (lv_at hl 0 rfl) ?_
    refine va_get (D := D) (ci := 2) (v := .int (f_windowBelow u_2)) (C := "WindowMachine$Processor") (T := T_P) (N := 18) hx hb ht zi_P hown hK hP 0 rfl rfl 3 (by decide) (ht _ zw_120) (fun _ h9 => h9) rfl d_P_takeTrap_63 ?_
    refine lv_bipush (v := (18 : Int32)) hx hb d_P_takeTrap_66 (by decide) ?_
    refine lv_aload_n hx hb d_P_takeTrap_68 rfl (lv_at hl 0 rfl) ?_
    refine va_get (D := D) (ci := 2) (v := .int (u_2.1 9)) (C := "WindowMachine$Processor") (T := T_P) (N := 18) hx hb ht zi_P hown hK hP 0 rfl rfl 12 (by decide) (ht _ zw_130) (fun _ h9 => h9) rfl d_P_takeTrap_69 ?_
    refine zc_v (w2 := fun u9 => wP h c (upd u_2.1 0 (f_windowBelow u_2), u_2.2.1, u9, u_2.2.2.2)) (va_runV (As := [.int (f_windowBelow u_2), .int (18 : Int32), .int (u_2.1 9)]) (rest := []) ⟨hx, hb, hml, hown, ht⟩ (mt_R_write l D (h 3) (h 4) (c 1) H.size u_4 (f_windowBelow u_2) (18 : Int32) (u_2.1 9) (wb_in (by rw [eu_2]; exact hW)) (by unfold vp_in; decide)) (cwV 3 ht (zgV zw_553 zw_554 zw_555 zw_5 zw_556) rfl rfl rfl kd_R_write ⟨Nat.le_of_ble_eq_true rfl, Nat.le_of_ble_eq_true rfl⟩) ⟨zw_blind zw_tt, va_recv (hK.sub (tys' := [((c 1), .int)]) [1] rfl) (hP.sub (ws' := wR (h 3) (h 4) (c 1) u_4) [3, 4] rfl) (ci := 4) (q0 := 0) rfl rfl, zw_go (hP.sub (ws' := wR (h 3) (h 4) (c 1) u_4) [3, 4] rfl) (hD.sub (ws' := wR (h 3) (h 4) (c 1) u_4) [3, 4] (by decide) rfl) (hK.sub (tys' := [((c 1), .int)]) [1] rfl) (fun _ _ _ => trivial)⟩ rfl rfl hl.1 rfl (lv_room (Nat.le_of_ble_eq_true rfl)) d_P_takeTrap_72 ⟨Nat.le_of_ble_eq_true rfl, Nat.le_of_ble_eq_true rfl⟩) hP hD hS hA [3, 4] [0, 1, 2, 5] [0, 1, 2, 4, 5, 3] rfl rfl (by decide) (by decide) (by decide) (fun _ => rfl) (fun u_5 H locs hw hP hD hS => ?_)
    have eu_5 := hw
    refine lv_aload_n hx hb d_P_takeTrap_75 rfl (lv_at hl 0 rfl) ?_
    refine lv_aload_n hx hb d_P_takeTrap_76 rfl (lv_at hl 0 rfl) ?_
    refine va_get (D := D) (ci := 2) (v := .int (u_2.1 7)) (C := "WindowMachine$Processor") (T := T_P) (N := 18) hx hb ht zi_P hown hK hP 0 rfl rfl 10 (by decide) (ht _ zw_128) (fun _ h9 => h9) rfl d_P_takeTrap_77 ?_
    refine lv_bipush (v := (16 : Int32)) hx hb d_P_takeTrap_80 (by decide) ?_
    refine lv_iload_n hx hb d_P_takeTrap_82 rfl (lv_at hl 1 rfl) ?_
    refine lv_imul hx hb d_P_takeTrap_83 ?_
    refine lv_iadd hx hb d_P_takeTrap_84 ?_
    refine va_put (D := D) (ci := 2) (v := .int ((u_2.1 7) + ((16 : Int32) * p0))) (ty := .int) (C := "WindowMachine$Processor") (T := T_P) (N := 18) hx hb ht zi_P ty_P tyok_P nm_P hown hK hP hD hS 0 rfl rfl 11 (by decide) (ht _ zw_129) (fun _ h9 => h9) rfl (by decide +kernel) rfl rfl (Nat.le_of_ble_eq_true rfl) d_P_takeTrap_85 (fun H locs hP hD hS => ?_)
    have hP : va_P D vwCl (wP h c (upd (upd u_2.1 0 (f_windowBelow u_2)) 8 ((u_2.1 7) + ((16 : Int32) * p0)), u_2.2.1, u_5, u_2.2.2.2)) H := hP
    have hD : va_D A (wP h c (upd (upd u_2.1 0 (f_windowBelow u_2)) 8 ((u_2.1 7) + ((16 : Int32) * p0)), u_2.2.1, u_5, u_2.2.2.2)) := hD
    refine lv_aload_n hx hb d_P_takeTrap_88 rfl (lv_at hl 0 rfl) ?_
    refine lv_aload_n hx hb d_P_takeTrap_89 rfl (lv_at hl 0 rfl) ?_
    refine va_get (D := D) (ci := 2) (v := .int ((u_2.1 7) + ((16 : Int32) * p0))) (C := "WindowMachine$Processor") (T := T_P) (N := 18) hx hb ht zi_P hown hK hP 0 rfl rfl 11 (by decide) (ht _ zw_129) (fun _ h9 => h9) rfl d_P_takeTrap_90 ?_
    refine lv_iconst (v := (4 : Int32)) hx hb d_P_takeTrap_93 (by decide) ?_
    refine lv_iadd hx hb d_P_takeTrap_94 ?_
    refine va_put (D := D) (ci := 2) (v := .int (((u_2.1 7) + ((16 : Int32) * p0)) + (4 : Int32))) (ty := .int) (C := "WindowMachine$Processor") (T := T_P) (N := 18) hx hb ht zi_P ty_P tyok_P nm_P hown hK hP hD hS 0 rfl rfl 12 (by decide) (ht _ zw_130) (fun _ h9 => h9) rfl (by decide +kernel) rfl rfl (Nat.le_of_ble_eq_true rfl) d_P_takeTrap_95 (fun H locs hP hD hS => ?_)
    have hP : va_P D vwCl (wP h c (upd (upd (upd u_2.1 0 (f_windowBelow u_2)) 8 ((u_2.1 7) + ((16 : Int32) * p0))) 9 (((u_2.1 7) + ((16 : Int32) * p0)) + (4 : Int32)), u_2.2.1, u_5, u_2.2.2.2)) H := hP
    have hD : va_D A (wP h c (upd (upd (upd u_2.1 0 (f_windowBelow u_2)) 8 ((u_2.1 7) + ((16 : Int32) * p0))) 9 (((u_2.1 7) + ((16 : Int32) * p0)) + (4 : Int32)), u_2.2.1, u_5, u_2.2.2.2)) := hD
    exact zl_v (u := (upd (upd (upd u_2.1 0 (f_windowBelow u_2)) 8 ((u_2.1 7) + ((16 : Int32) * p0))) 9 (((u_2.1 7) + ((16 : Int32) * p0)) + (4 : Int32)), u_2.2.1, u_5, u_2.2.2.2)) hx hb hr hlocks hS hP hD (by subst eu_2; subst eu_4; subst eu_5; simp only [f_takeTrap, if_neg c_1]) d_P_takeTrap_98
  refine lv_aload_n hx hb d_P_takeTrap_17 rfl (lv_at hl 0 rfl) ?_
  refine lv_iload_n hx hb d_P_takeTrap_18 rfl (lv_at hl 1 rfl) ?_
  refine va_put (D := D) (ci := 2) (v := .int p0) (ty := .int) (C := "WindowMachine$Processor") (T := T_P) (N := 18) hx hb ht zi_P ty_P tyok_P nm_P hown hK hP hD hS 0 rfl rfl 15 (by decide) (ht _ zw_133) (fun _ h9 => h9) rfl (by decide +kernel) rfl rfl (Nat.le_of_ble_eq_true rfl) d_P_takeTrap_19 (fun H locs hP hD hS => ?_)
  have hP : va_P D vwCl (wP h c (upd (upd st.1 14 ((st.1 14) + (1 : Int32))) 12 p0, st.2.1, st.2.2.1, st.2.2.2)) H := hP
  have hD : va_D A (wP h c (upd (upd st.1 14 ((st.1 14) + (1 : Int32))) 12 p0, st.2.1, st.2.2.1, st.2.2.2)) := hD
  exact zl_v (u := (upd (upd st.1 14 ((st.1 14) + (1 : Int32))) 12 p0, st.2.1, st.2.2.1, st.2.2.2)) hx hb hr hlocks hS hP hD (by simp only [f_takeTrap, if_pos c_1]) d_P_takeTrap_22
theorem d_P_reckonInto_0 : decode c_P_reckonInto 0 = .ok (.iload_n 2, 1) := by decide +kernel
theorem d_P_reckonInto_1 : decode c_P_reckonInto 1 = .ok (.bipush 16, 2) := by decide +kernel
theorem d_P_reckonInto_3 : decode c_P_reckonInto 3 = .ok (.irem, 1) := by decide +kernel
theorem d_P_reckonInto_4 : decode c_P_reckonInto 4 = .ok (.istore 5, 2) := by decide +kernel
theorem d_P_reckonInto_6 : decode c_P_reckonInto 6 = .ok (.iload 5, 2) := by decide +kernel
theorem d_P_reckonInto_8 : decode c_P_reckonInto 8 = .ok (.bipush 9, 2) := by decide +kernel
theorem d_P_reckonInto_10 : decode c_P_reckonInto 10 = .ok (.if_icmp .eq 10, 3) := by decide +kernel
theorem d_P_reckonInto_13 : decode c_P_reckonInto 13 = .ok (.iload 5, 2) := by decide +kernel
theorem d_P_reckonInto_15 : decode c_P_reckonInto 15 = .ok (.bipush 13, 2) := by decide +kernel
theorem d_P_reckonInto_17 : decode c_P_reckonInto 17 = .ok (.if_icmp .ne 5, 3) := by decide +kernel
theorem d_P_reckonInto_20 : decode c_P_reckonInto 20 = .ok (.iconst 2, 1) := by decide +kernel
theorem d_P_reckonInto_21 : decode c_P_reckonInto 21 = .ok (.ireturn, 1) := by decide +kernel
theorem d_P_reckonInto_22 : decode c_P_reckonInto 22 = .ok (.iload 5, 2) := by decide +kernel
theorem d_P_reckonInto_24 : decode c_P_reckonInto 24 = .ok (.bipush 14, 2) := by decide +kernel
theorem d_P_reckonInto_26 : decode c_P_reckonInto 26 = .ok (.if_icmp .eq 10, 3) := by decide +kernel
theorem d_P_reckonInto_29 : decode c_P_reckonInto 29 = .ok (.iload 5, 2) := by decide +kernel
theorem d_P_reckonInto_31 : decode c_P_reckonInto 31 = .ok (.bipush 15, 2) := by decide +kernel
theorem d_P_reckonInto_33 : decode c_P_reckonInto 33 = .ok (.if_icmp .ne 11, 3) := by decide +kernel
theorem d_P_reckonInto_36 : decode c_P_reckonInto 36 = .ok (.iload 4, 2) := by decide +kernel
theorem d_P_reckonInto_38 : decode c_P_reckonInto 38 = .ok (.ifCond .ne 6, 3) := by decide +kernel
theorem d_P_reckonInto_41 : decode c_P_reckonInto 41 = .ok (.bipush 42, 2) := by decide +kernel
theorem d_P_reckonInto_43 : decode c_P_reckonInto 43 = .ok (.ireturn, 1) := by decide +kernel
theorem d_P_reckonInto_44 : decode c_P_reckonInto 44 = .ok (.aload_n 0, 1) := by decide +kernel
theorem d_P_reckonInto_45 : decode c_P_reckonInto 45 = .ok (.getfield 25, 3) := by decide +kernel
theorem d_P_reckonInto_48 : decode c_P_reckonInto 48 = .ok (.iload 5, 2) := by decide +kernel
theorem d_P_reckonInto_50 : decode c_P_reckonInto 50 = .ok (.iload_n 3, 1) := by decide +kernel
theorem d_P_reckonInto_51 : decode c_P_reckonInto 51 = .ok (.iload 4, 2) := by decide +kernel
theorem d_P_reckonInto_53 : decode c_P_reckonInto 53 = .ok (.aload_n 0, 1) := by decide +kernel
theorem d_P_reckonInto_54 : decode c_P_reckonInto 54 = .ok (.getfield 63, 3) := by decide +kernel
theorem d_P_reckonInto_57 : decode c_P_reckonInto 57 = .ok (.iconst 1, 1) := by decide +kernel
theorem d_P_reckonInto_58 : decode c_P_reckonInto 58 = .ok (.iand, 1) := by decide +kernel
theorem d_P_reckonInto_59 : decode c_P_reckonInto 59 = .ok (.aload_n 0, 1) := by decide +kernel
theorem d_P_reckonInto_60 : decode c_P_reckonInto 60 = .ok (.getfield 66, 3) := by decide +kernel
theorem d_P_reckonInto_63 : decode c_P_reckonInto 63 = .ok (.invokevirtual 183, 3) := by decide +kernel
theorem d_P_reckonInto_66 : decode c_P_reckonInto 66 = .ok (.iload 5, 2) := by decide +kernel
theorem d_P_reckonInto_68 : decode c_P_reckonInto 68 = .ok (.bipush 10, 2) := by decide +kernel
theorem d_P_reckonInto_70 : decode c_P_reckonInto 70 = .ok (.if_icmp .eq 10, 3) := by decide +kernel
theorem d_P_reckonInto_73 : decode c_P_reckonInto 73 = .ok (.iload 5, 2) := by decide +kernel
theorem d_P_reckonInto_75 : decode c_P_reckonInto 75 = .ok (.bipush 11, 2) := by decide +kernel
theorem d_P_reckonInto_77 : decode c_P_reckonInto 77 = .ok (.if_icmp .ne 14, 3) := by decide +kernel
theorem d_P_reckonInto_80 : decode c_P_reckonInto 80 = .ok (.aload_n 0, 1) := by decide +kernel
theorem d_P_reckonInto_81 : decode c_P_reckonInto 81 = .ok (.aload_n 0, 1) := by decide +kernel
theorem d_P_reckonInto_82 : decode c_P_reckonInto 82 = .ok (.getfield 25, 3) := by decide +kernel
theorem d_P_reckonInto_85 : decode c_P_reckonInto 85 = .ok (.getfield 186, 3) := by decide +kernel
theorem d_P_reckonInto_88 : decode c_P_reckonInto 88 = .ok (.putfield 66, 3) := by decide +kernel
theorem d_P_reckonInto_91 : decode c_P_reckonInto 91 = .ok (.iload_n 2, 1) := by decide +kernel
theorem d_P_reckonInto_92 : decode c_P_reckonInto 92 = .ok (.bipush 16, 2) := by decide +kernel
theorem d_P_reckonInto_94 : decode c_P_reckonInto 94 = .ok (.if_icmp .lt 14, 3) := by decide +kernel
theorem d_P_reckonInto_97 : decode c_P_reckonInto 97 = .ok (.aload_n 0, 1) := by decide +kernel
theorem d_P_reckonInto_98 : decode c_P_reckonInto 98 = .ok (.aload_n 0, 1) := by decide +kernel
theorem d_P_reckonInto_99 : decode c_P_reckonInto 99 = .ok (.getfield 25, 3) := by decide +kernel
theorem d_P_reckonInto_102 : decode c_P_reckonInto 102 = .ok (.invokevirtual 189, 3) := by decide +kernel
theorem d_P_reckonInto_105 : decode c_P_reckonInto 105 = .ok (.putfield 63, 3) := by decide +kernel
theorem d_P_reckonInto_108 : decode c_P_reckonInto 108 = .ok (.aload_n 0, 1) := by decide +kernel
theorem d_P_reckonInto_109 : decode c_P_reckonInto 109 = .ok (.iload_n 1, 1) := by decide +kernel
theorem d_P_reckonInto_110 : decode c_P_reckonInto 110 = .ok (.aload_n 0, 1) := by decide +kernel
theorem d_P_reckonInto_111 : decode c_P_reckonInto 111 = .ok (.getfield 25, 3) := by decide +kernel
theorem d_P_reckonInto_114 : decode c_P_reckonInto 114 = .ok (.getfield 191, 3) := by decide +kernel
theorem d_P_reckonInto_117 : decode c_P_reckonInto 117 = .ok (.invokevirtual 130, 3) := by decide +kernel
theorem d_P_reckonInto_120 : decode c_P_reckonInto 120 = .ok (.ireturn, 1) := by decide +kernel
theorem kd_P_reckonInto : (y_P_reckonInto).cls = "WindowMachine$Processor" ∧ (y_P_reckonInto).cls ≠ "java/lang/invoke/MethodHandle" ∧ (y_P_reckonInto).cls ≠ "java/lang/invoke/VarHandle" ∧ (parseMethodDescriptor (y_P_reckonInto).desc).map (fun d => d.parameters.length) = some 4 := by decide +kernel
def f_reckonInto (st : SP) (p0 : Int32) (p1 : Int32) (p2 : Int32) (p3 : Int32) : Int32 × SP := (let x_1 := p1 - p1 / (16 : Int32) * (16 : Int32); (if x_1 = (9 : Int32) then ((2 : Int32), st) else (if x_1 = (13 : Int32) then ((2 : Int32), st) else (if x_1 = (14 : Int32) then (if p3 = (0 : Int32) then ((42 : Int32), st) else (let u_6 := f_reckon st.2.1 x_1 p2 p3 ((st.1 1) &&& (1 : Int32)) (st.1 2); (let u_7 := (if x_1 = (10 : Int32) then (upd st.1 2 (u_6 1), u_6, st.2.2.1, st.2.2.2) else (if x_1 = (11 : Int32) then (upd st.1 2 (u_6 1), u_6, st.2.2.1, st.2.2.2) else (st.1, u_6, st.2.2.1, st.2.2.2))); (let u_11 := (if p1 < (16 : Int32) then u_7 else (upd u_7.1 1 (f_kflags u_7.2.1), u_7.2.1, u_7.2.2.1, u_7.2.2.2)); (let r_15 := (f_deliver u_11 p0 (u_11.2.1 0)).1; (let u_15 := (f_deliver u_11 p0 (u_11.2.1 0)).2; (r_15, u_15))))))) else (if x_1 = (15 : Int32) then (if p3 = (0 : Int32) then ((42 : Int32), st) else (let u_28 := f_reckon st.2.1 x_1 p2 p3 ((st.1 1) &&& (1 : Int32)) (st.1 2); (let u_29 := (if x_1 = (10 : Int32) then (upd st.1 2 (u_28 1), u_28, st.2.2.1, st.2.2.2) else (if x_1 = (11 : Int32) then (upd st.1 2 (u_28 1), u_28, st.2.2.1, st.2.2.2) else (st.1, u_28, st.2.2.1, st.2.2.2))); (let u_33 := (if p1 < (16 : Int32) then u_29 else (upd u_29.1 1 (f_kflags u_29.2.1), u_29.2.1, u_29.2.2.1, u_29.2.2.2)); (let r_37 := (f_deliver u_33 p0 (u_33.2.1 0)).1; (let u_37 := (f_deliver u_33 p0 (u_33.2.1 0)).2; (r_37, u_37))))))) else (let u_17 := f_reckon st.2.1 x_1 p2 p3 ((st.1 1) &&& (1 : Int32)) (st.1 2); (let u_18 := (if x_1 = (10 : Int32) then (upd st.1 2 (u_17 1), u_17, st.2.2.1, st.2.2.2) else (if x_1 = (11 : Int32) then (upd st.1 2 (u_17 1), u_17, st.2.2.1, st.2.2.2) else (st.1, u_17, st.2.2.1, st.2.2.2))); (let u_22 := (if p1 < (16 : Int32) then u_18 else (upd u_18.1 1 (f_kflags u_18.2.1), u_18.2.1, u_18.2.2.1, u_18.2.2.2)); (let r_26 := (f_deliver u_22 p0 (u_22.2.1 0)).1; (let u_26 := (f_deliver u_22 p0 (u_22.2.1 0)).2; (r_26, u_26)))))))))))
set_option maxHeartbeats 4000000 in
set_option maxRecDepth 100000 in
theorem mt_P_reckonInto (l : Launch) (D : va_G) (za zk zv : Nat → Nat) (h : Nat → Nat) (c : Nat → ClassId) (sz : Nat) (st : SP) (p0 : Int32) (p1 : Int32) (p2 : Int32) (p3 : Int32) (hW : vp_in (st.1 0) 4) : Met l y_P_reckonInto w_P_reckonInto ({ frames := 3, cells := 0, slots := 0, locals := 74 }) (va_Pc [.ref (h 0), .int p0, .int p1, .int p2, .int p3] (zw_pre D vwCl [(c 0, .int), (c 1, .int)] sz (wP h c st) (zz za zk zv (va_A (wP h c st) sz)))) (va_Qi (fun r (u : SP) => r = (f_reckonInto st p0 p1 p2 p3).1 ∧ u = (f_reckonInto st p0 p1 p2 p3).2) (fun u t => zw_at D vwCl (va_A (wP h c st) sz) ((fun (u : SP) => wP h c u) u) t) (va_A (wP h c st) sz)) 0 0 (va_A (wP h c st) sz) := by
  refine zm (Qf := fun A => va_Qi (fun r (u : SP) => r = (f_reckonInto st p0 p1 p2 p3).1 ∧ u = (f_reckonInto st p0 p1 p2 p3).2) (fun u t => zw_at D vwCl A ((fun (u : SP) => wP h c u) u) t) A) (Zf := fun A => zz za zk zv A) (cc := c_P_reckonInto) (nL := 6) (ret := (some .int)) (by decide) rfl (Nat.le_of_ble_eq_true rfl) ?_
  intro p e s m below meth c9 A H locs ls hx hb hml hown hts hr hlocks hA hK hP hD hS hZ hl
  have hl : lv_has ls 6 [(0, .ref (h 0)), (1, .int p0), (2, .int p1), (3, .int p2), (4, .int p3)] := hl
  have ht : ∀ w9 ∈ zT, w9.before _ s = true := fun w9 h9 => hts w9 (List.mem_cons_of_mem _ h9)
  refine lv_iload_n hx hb d_P_reckonInto_0 rfl (lv_at hl 2 rfl) ?_
  refine lv_bipush (v := (16 : Int32)) hx hb d_P_reckonInto_1 (by decide) ?_
  refine lv_irem hx hb d_P_reckonInto_3 (by decide) ?_
  refine lv_topi (fun x_1 ex_1 => ?_)
  refine lv_istore (lv' := [(5, .int x_1), (0, .ref (h 0)), (1, .int p0), (2, .int p1), (3, .int p2), (4, .int p3)]) hx hb d_P_reckonInto_4 hl (by decide) rfl (fun ls hl => ?_)
  refine lv_iload hx hb d_P_reckonInto_6 (lv_at hl 0 rfl) ?_
  refine lv_bipush (v := (9 : Int32)) hx hb d_P_reckonInto_8 (by decide) ?_
  refine lv_icmp_eq (tgt := 20) hx hb d_P_reckonInto_10 (by decide) (fun c_2 => ?_) (fun c_2 => ?_)
  · refine lv_iconst (v := (2 : Int32)) hx hb d_P_reckonInto_20 (by decide) ?_
    exact zl_i (u := st) hx hb hr hlocks hS hP hD (⟨by subst ex_1; simp only [f_reckonInto, if_pos c_2], by subst ex_1; simp only [f_reckonInto, if_pos c_2]⟩) d_P_reckonInto_21
  refine lv_iload hx hb d_P_reckonInto_13 (lv_at hl 0 rfl) ?_
  refine lv_bipush (v := (13 : Int32)) hx hb d_P_reckonInto_15 (by decide) ?_
  refine lv_icmp_ne (tgt := 22) hx hb d_P_reckonInto_17 (by decide) (fun c_3 => ?_) (fun c_3 => ?_)
  · refine lv_iload hx hb d_P_reckonInto_22 (lv_at hl 0 rfl) ?_
    refine lv_bipush (v := (14 : Int32)) hx hb d_P_reckonInto_24 (by decide) ?_
    refine lv_icmp_eq (tgt := 36) hx hb d_P_reckonInto_26 (by decide) (fun c_4 => ?_) (fun c_4 => ?_)
    · refine lv_iload hx hb d_P_reckonInto_36 (lv_at hl 5 rfl) ?_
      refine lv_if_ne (tgt := 44) hx hb d_P_reckonInto_38 (by decide) (fun c_5 => ?_) (fun c_5 => ?_)
      · refine lv_aload_n hx hb d_P_reckonInto_44 rfl (lv_at hl 1 rfl) ?_
        refine va_get (D := D) (ci := 2) (v := .ref (h 5)) (C := "WindowMachine$Processor") (T := T_P) (N := 18) hx hb ht zi_P hown hK hP 0 rfl rfl 2 (by decide) (ht _ zw_119) (fun _ h9 => h9) rfl d_P_reckonInto_45 ?_
        refine lv_iload hx hb d_P_reckonInto_48 (lv_at hl 0 rfl) ?_
        refine lv_iload_n hx hb d_P_reckonInto_50 rfl (lv_at hl 4 rfl) ?_
        refine lv_iload hx hb d_P_reckonInto_51 (lv_at hl 5 rfl) ?_
        refine lv_aload_n hx hb d_P_reckonInto_53 rfl (lv_at hl 1 rfl) ?_
        refine va_get (D := D) (ci := 2) (v := .int (st.1 1)) (C := "WindowMachine$Processor") (T := T_P) (N := 18) hx hb ht zi_P hown hK hP 0 rfl rfl 4 (by decide) (ht _ zw_122) (fun _ h9 => h9) rfl d_P_reckonInto_54 ?_
        refine lv_iconst (v := (1 : Int32)) hx hb d_P_reckonInto_57 (by decide) ?_
        refine lv_iand hx hb d_P_reckonInto_58 ?_
        refine lv_aload_n hx hb d_P_reckonInto_59 rfl (lv_at hl 1 rfl) ?_
        refine va_get (D := D) (ci := 2) (v := .int (st.1 2)) (C := "WindowMachine$Processor") (T := T_P) (N := 18) hx hb ht zi_P hown hK hP 0 rfl rfl 5 (by decide) (ht _ zw_123) (fun _ h9 => h9) rfl d_P_reckonInto_60 ?_
        refine zc_v (w2 := fun u9 => wP h c (st.1, u9, st.2.2.1, st.2.2.2)) (va_runV (As := [.int x_1, .int p2, .int p3, .int ((st.1 1) &&& (1 : Int32)), .int (st.1 2)]) (rest := []) ⟨hx, hb, hml, hown, ht⟩ (mt_K_reckon l D (h 5) H.size st.2.1 x_1 p2 p3 ((st.1 1) &&& (1 : Int32)) (st.1 2)) (cwV 5 ht (zgV zw_586 zw_587 zw_588 zw_6 zw_589) rfl rfl rfl kd_K_reckon ⟨Nat.le_of_ble_eq_true rfl, Nat.le_of_ble_eq_true rfl⟩) ⟨zw_blind zw_tt, va_recv (hK.sub (tys' := []) [] rfl) (hP.sub (ws' := wK (h 5) st.2.1) [5] rfl) (ci := 3) (q0 := 0) rfl rfl, zw_go (hP.sub (ws' := wK (h 5) st.2.1) [5] rfl) (hD.sub (ws' := wK (h 5) st.2.1) [5] (by decide) rfl) (hK.sub (tys' := []) [] rfl) (fun _ _ _ => trivial)⟩ rfl rfl hl.1 rfl (lv_room (Nat.le_of_ble_eq_true rfl)) d_P_reckonInto_63 ⟨Nat.le_of_ble_eq_true rfl, Nat.le_of_ble_eq_true rfl⟩) hP hD hS hA [5] [0, 1, 2, 3, 4] [0, 1, 2, 3, 4, 5] rfl rfl (by decide) (by decide) (by decide) (fun _ => rfl) (fun u_6 H locs hw hP hD hS => ?_)
        have eu_6 := hw
        refine lv_iload hx hb d_P_reckonInto_66 (lv_at hl 0 rfl) ?_
        refine lv_bipush (v := (10 : Int32)) hx hb d_P_reckonInto_68 (by decide) ?_
        refine zcut (X := SP) (G := fun v9 H locs ls => v9 = (if x_1 = (10 : Int32) then (upd st.1 2 (u_6 1), u_6, st.2.2.1, st.2.2.2) else (if x_1 = (11 : Int32) then (upd st.1 2 (u_6 1), u_6, st.2.2.1, st.2.2.2) else (st.1, u_6, st.2.2.1, st.2.2.2))) ∧ va_P D vwCl (wP h c v9) H ∧ va_D A (wP h c v9) ∧ va_S A s.heap H locs ∧ lv_has ls 6 [(0, .ref (h 0)), (1, .int p0), (2, .int p1), (3, .int p2), (4, .int p3), (5, .int x_1)]) (fr := fun v9 ls => F0 m 91 ls []) (fun J_8 => ?_) (fun v9 H locs ls hG => ?_)
        · refine lv_icmp_eq (tgt := 80) hx hb d_P_reckonInto_70 (by decide) (fun c_9 => ?_) (fun c_9 => ?_)
          · refine lv_aload_n hx hb d_P_reckonInto_80 rfl (lv_at hl 1 rfl) ?_
            refine lv_aload_n hx hb d_P_reckonInto_81 rfl (lv_at hl 1 rfl) ?_
            refine va_get (D := D) (ci := 2) (v := .ref (h 5)) (C := "WindowMachine$Processor") (T := T_P) (N := 18) hx hb ht zi_P hown hK hP 0 rfl rfl 2 (by decide) (ht _ zw_119) (fun _ h9 => h9) rfl d_P_reckonInto_82 ?_
            refine va_getN (D := D) (ci := 3) (v := .int (u_6 1)) (C := "WindowMachine$Reckoner") (T := T_K) (N := 4) hx hb ht zi_K hown hK hP 5 rfl rfl 1 (by decide) (va_Nw.use rfl (zz_n88 hZ)) (fun _ h9 => h9) rfl d_P_reckonInto_85 ?_
            refine va_put (D := D) (ci := 2) (v := .int (u_6 1)) (ty := .int) (C := "WindowMachine$Processor") (T := T_P) (N := 18) hx hb ht zi_P ty_P tyok_P nm_P hown hK hP hD hS 0 rfl rfl 5 (by decide) (ht _ zw_123) (fun _ h9 => h9) rfl (by decide +kernel) rfl rfl (Nat.le_of_ble_eq_true rfl) d_P_reckonInto_88 (fun H locs hP hD hS => ?_)
            have hP : va_P D vwCl (wP h c (upd st.1 2 (u_6 1), u_6, st.2.2.1, st.2.2.2)) H := hP
            have hD : va_D A (wP h c (upd st.1 2 (u_6 1), u_6, st.2.2.1, st.2.2.2)) := hD
            exact J_8 (upd st.1 2 (u_6 1), u_6, st.2.2.1, st.2.2.2) _ _ _ ⟨by simp only [if_pos c_9], hP, hD, hS, (lv_sub hl [1, 2, 3, 4, 5, 0] rfl)⟩
          refine lv_iload hx hb d_P_reckonInto_73 (lv_at hl 0 rfl) ?_
          refine lv_bipush (v := (11 : Int32)) hx hb d_P_reckonInto_75 (by decide) ?_
          refine lv_icmp_ne (tgt := 91) hx hb d_P_reckonInto_77 (by decide) (fun c_10 => ?_) (fun c_10 => ?_)
          · exact J_8 (st.1, u_6, st.2.2.1, st.2.2.2) _ _ _ ⟨by simp only [if_neg c_9, if_neg c_10], hP, hD, hS, (lv_sub hl [1, 2, 3, 4, 5, 0] rfl)⟩
          refine lv_aload_n hx hb d_P_reckonInto_80 rfl (lv_at hl 1 rfl) ?_
          refine lv_aload_n hx hb d_P_reckonInto_81 rfl (lv_at hl 1 rfl) ?_
          refine va_get (D := D) (ci := 2) (v := .ref (h 5)) (C := "WindowMachine$Processor") (T := T_P) (N := 18) hx hb ht zi_P hown hK hP 0 rfl rfl 2 (by decide) (ht _ zw_119) (fun _ h9 => h9) rfl d_P_reckonInto_82 ?_
          refine va_getN (D := D) (ci := 3) (v := .int (u_6 1)) (C := "WindowMachine$Reckoner") (T := T_K) (N := 4) hx hb ht zi_K hown hK hP 5 rfl rfl 1 (by decide) (va_Nw.use rfl (zz_n88 hZ)) (fun _ h9 => h9) rfl d_P_reckonInto_85 ?_
          refine va_put (D := D) (ci := 2) (v := .int (u_6 1)) (ty := .int) (C := "WindowMachine$Processor") (T := T_P) (N := 18) hx hb ht zi_P ty_P tyok_P nm_P hown hK hP hD hS 0 rfl rfl 5 (by decide) (ht _ zw_123) (fun _ h9 => h9) rfl (by decide +kernel) rfl rfl (Nat.le_of_ble_eq_true rfl) d_P_reckonInto_88 (fun H locs hP hD hS => ?_)
          have hP : va_P D vwCl (wP h c (upd st.1 2 (u_6 1), u_6, st.2.2.1, st.2.2.2)) H := hP
          have hD : va_D A (wP h c (upd st.1 2 (u_6 1), u_6, st.2.2.1, st.2.2.2)) := hD
          exact J_8 (upd st.1 2 (u_6 1), u_6, st.2.2.1, st.2.2.2) _ _ _ ⟨by simp only [if_neg c_9, if_pos c_10], hP, hD, hS, (lv_sub hl [1, 2, 3, 4, 5, 0] rfl)⟩
        obtain ⟨u_7, rfl⟩ : ∃ z, z = v9 := ⟨_, rfl⟩
        obtain ⟨eu_7, hP, hD, hS, hl⟩ := hG
        refine lv_iload_n hx hb d_P_reckonInto_91 rfl (lv_at hl 2 rfl) ?_
        refine lv_bipush (v := (16 : Int32)) hx hb d_P_reckonInto_92 (by decide) ?_
        refine zcut (X := SP) (G := fun v9 H locs ls => v9 = (if p1 < (16 : Int32) then u_7 else (upd u_7.1 1 (f_kflags u_7.2.1), u_7.2.1, u_7.2.2.1, u_7.2.2.2)) ∧ va_P D vwCl (wP h c v9) H ∧ va_D A (wP h c v9) ∧ va_S A s.heap H locs ∧ lv_has ls 6 [(0, .ref (h 0)), (1, .int p0), (2, .int p1), (3, .int p2), (4, .int p3), (5, .int x_1)]) (fr := fun v9 ls => F0 m 108 ls []) (fun J_12 => ?_) (fun v9 H locs ls hG => ?_)
        · refine lv_icmp_lt (tgt := 108) hx hb d_P_reckonInto_94 (by decide) (fun c_13 => ?_) (fun c_13 => ?_)
          · exact J_12 u_7 _ _ _ ⟨by simp only [if_pos c_13], hP, hD, hS, hl⟩
          refine lv_aload_n hx hb d_P_reckonInto_97 rfl (lv_at hl 0 rfl) ?_
          refine lv_aload_n hx hb d_P_reckonInto_98 rfl (lv_at hl 0 rfl) ?_
          refine va_get (D := D) (ci := 2) (v := .ref (h 5)) (C := "WindowMachine$Processor") (T := T_P) (N := 18) hx hb ht zi_P hown hK hP 0 rfl rfl 2 (by decide) (ht _ zw_119) (fun _ h9 => h9) rfl d_P_reckonInto_99 ?_
          refine zc_i (w2 := fun _ => wP h c u_7) (va_runV (As := []) (rest := [.ref (h 0)]) ⟨hx, hb, hml, hown, ht⟩ (mt_K_flags l D (h 5) H.size u_7.2.1) (cwV 0 ht (zgV zw_628 zw_629 zw_630 zw_6 zw_631) rfl rfl rfl kd_K_flags ⟨Nat.le_of_ble_eq_true rfl, Nat.le_of_ble_eq_true rfl⟩) ⟨zw_blind zw_tt, va_recv (hK.sub (tys' := []) [] rfl) (hP.sub (ws' := wK (h 5) u_7.2.1) [5] rfl) (ci := 3) (q0 := 0) rfl rfl, zw_go (hP.sub (ws' := wK (h 5) u_7.2.1) [5] rfl) (hD.sub (ws' := wK (h 5) u_7.2.1) [5] (by decide) rfl) (hK.sub (tys' := []) [] rfl) (fun _ _ _ => trivial)⟩ rfl rfl hl.1 rfl (lv_room (Nat.le_of_ble_eq_true rfl)) d_P_reckonInto_102 ⟨Nat.le_of_ble_eq_true rfl, Nat.le_of_ble_eq_true rfl⟩) hP hD hS hA [5] [0, 1, 2, 3, 4] [0, 1, 2, 3, 4, 5] rfl rfl (by decide) (by decide) (by decide) (fun _ => rfl) (fun r_14 _ H locs hw hP hD hS => ?_)
          subst hw
          refine va_put (D := D) (ci := 2) (v := .int (f_kflags u_7.2.1)) (ty := .int) (C := "WindowMachine$Processor") (T := T_P) (N := 18) hx hb ht zi_P ty_P tyok_P nm_P hown hK hP hD hS 0 rfl rfl 4 (by decide) (ht _ zw_122) (fun _ h9 => h9) rfl (by decide +kernel) rfl rfl (Nat.le_of_ble_eq_true rfl) d_P_reckonInto_105 (fun H locs hP hD hS => ?_)
          have hP : va_P D vwCl (wP h c (upd u_7.1 1 (f_kflags u_7.2.1), u_7.2.1, u_7.2.2.1, u_7.2.2.2)) H := hP
          have hD : va_D A (wP h c (upd u_7.1 1 (f_kflags u_7.2.1), u_7.2.1, u_7.2.2.1, u_7.2.2.2)) := hD
          exact J_12 (upd u_7.1 1 (f_kflags u_7.2.1), u_7.2.1, u_7.2.2.1, u_7.2.2.2) _ _ _ ⟨by simp only [if_neg c_13], hP, hD, hS, hl⟩
        obtain ⟨u_11, rfl⟩ : ∃ z, z = v9 := ⟨_, rfl⟩
        obtain ⟨eu_11, hP, hD, hS, hl⟩ := hG
        refine lv_aload_n hx hb d_P_reckonInto_108 rfl (lv_at hl 0 rfl) ?_
        refine lv_iload_n hx hb d_P_reckonInto_109 rfl (lv_at hl 1 rfl) ?_
        refine lv_aload_n hx hb d_P_reckonInto_110 rfl (lv_at hl 0 rfl) ?_
        refine va_get (D := D) (ci := 2) (v := .ref (h 5)) (C := "WindowMachine$Processor") (T := T_P) (N := 18) hx hb ht zi_P hown hK hP 0 rfl rfl 2 (by decide) (ht _ zw_119) (fun _ h9 => h9) rfl d_P_reckonInto_111 ?_
        refine va_getN (D := D) (ci := 3) (v := .int (u_11.2.1 0)) (C := "WindowMachine$Reckoner") (T := T_K) (N := 4) hx hb ht zi_K hown hK hP 5 rfl rfl 0 (by decide) (va_Nw.use rfl (zz_n86 hZ)) (fun _ h9 => h9) rfl d_P_reckonInto_114 ?_
        refine zc_i (w2 := fun u9 => wP h c u9) (va_runV (As := [.int p0, .int (u_11.2.1 0)]) (rest := []) ⟨hx, hb, hml, hown, ht⟩ (mt_P_deliver l D h c H.size u_11 p0 (u_11.2.1 0) (by simp only [eu_11, eu_7, eu_6]; (repeat' split) <;> exact hW)) (cwV 2 ht (zgV zw_546 zw_548 zs_26 zw_4 zw_549) rfl rfl rfl kd_P_deliver ⟨Nat.le_of_ble_eq_true rfl, Nat.le_of_ble_eq_true rfl⟩) ⟨zw_blind zw_tt, va_recv (hK.sub (tys' := [(c 0, .int), (c 1, .int)]) [0, 1] rfl) (hP.sub (ws' := wP h c u_11) [0, 1, 2, 3, 4, 5] rfl) (ci := 2) (q0 := 0) rfl rfl, zw_go (hP.sub (ws' := wP h c u_11) [0, 1, 2, 3, 4, 5] rfl) (hD.sub (ws' := wP h c u_11) [0, 1, 2, 3, 4, 5] (by decide) rfl) (hK.sub (tys' := [(c 0, .int), (c 1, .int)]) [0, 1] rfl) (fun _ _ _ => trivial)⟩ rfl rfl hl.1 rfl (lv_room (Nat.le_of_ble_eq_true rfl)) d_P_reckonInto_117 ⟨Nat.le_of_ble_eq_true rfl, Nat.le_of_ble_eq_true rfl⟩) hP hD hS hA [0, 1, 2, 3, 4, 5] [] [0, 1, 2, 3, 4, 5] rfl rfl (by decide) (by decide) (by decide) (fun _ => rfl) (fun r_15 u_15 H locs hw hP hD hS => ?_)
        obtain ⟨er_15, eu_15⟩ := hw
        exact zl_i (u := u_15) hx hb hr hlocks hS hP hD (⟨by subst ex_1; subst eu_6; subst eu_7; subst eu_11; subst er_15; subst eu_15; simp only [f_reckonInto, if_neg c_2, if_neg c_3, if_pos c_4, if_neg c_5], by subst ex_1; subst eu_6; subst eu_7; subst eu_11; subst er_15; subst eu_15; simp only [f_reckonInto, if_neg c_2, if_neg c_3, if_pos c_4, if_neg c_5]⟩) d_P_reckonInto_120
      refine lv_bipush (v := (42 : Int32)) hx hb d_P_reckonInto_41 (by decide) ?_
      exact zl_i (u := st) hx hb hr hlocks hS hP hD (⟨by subst ex_1; simp only [f_reckonInto, if_neg c_2, if_neg c_3, if_pos c_4, if_pos c_5], by subst ex_1; simp only [f_reckonInto, if_neg c_2, if_neg c_3, if_pos c_4, if_pos c_5]⟩) d_P_reckonInto_43
    refine lv_iload hx hb d_P_reckonInto_29 (lv_at hl 0 rfl) ?_
    refine lv_bipush (v := (15 : Int32)) hx hb d_P_reckonInto_31 (by decide) ?_
    refine lv_icmp_ne (tgt := 44) hx hb d_P_reckonInto_33 (by decide) (fun c_16 => ?_) (fun c_16 => ?_)
    · refine lv_aload_n hx hb d_P_reckonInto_44 rfl (lv_at hl 1 rfl) ?_
      refine va_get (D := D) (ci := 2) (v := .ref (h 5)) (C := "WindowMachine$Processor") (T := T_P) (N := 18) hx hb ht zi_P hown hK hP 0 rfl rfl 2 (by decide) (ht _ zw_119) (fun _ h9 => h9) rfl d_P_reckonInto_45 ?_
      refine lv_iload hx hb d_P_reckonInto_48 (lv_at hl 0 rfl) ?_
      refine lv_iload_n hx hb d_P_reckonInto_50 rfl (lv_at hl 4 rfl) ?_
      refine lv_iload hx hb d_P_reckonInto_51 (lv_at hl 5 rfl) ?_
      refine lv_aload_n hx hb d_P_reckonInto_53 rfl (lv_at hl 1 rfl) ?_
      refine va_get (D := D) (ci := 2) (v := .int (st.1 1)) (C := "WindowMachine$Processor") (T := T_P) (N := 18) hx hb ht zi_P hown hK hP 0 rfl rfl 4 (by decide) (ht _ zw_122) (fun _ h9 => h9) rfl d_P_reckonInto_54 ?_
      refine lv_iconst (v := (1 : Int32)) hx hb d_P_reckonInto_57 (by decide) ?_
      refine lv_iand hx hb d_P_reckonInto_58 ?_
      refine lv_aload_n hx hb d_P_reckonInto_59 rfl (lv_at hl 1 rfl) ?_
      refine va_get (D := D) (ci := 2) (v := .int (st.1 2)) (C := "WindowMachine$Processor") (T := T_P) (N := 18) hx hb ht zi_P hown hK hP 0 rfl rfl 5 (by decide) (ht _ zw_123) (fun _ h9 => h9) rfl d_P_reckonInto_60 ?_
      refine zc_v (w2 := fun u9 => wP h c (st.1, u9, st.2.2.1, st.2.2.2)) (va_runV (As := [.int x_1, .int p2, .int p3, .int ((st.1 1) &&& (1 : Int32)), .int (st.1 2)]) (rest := []) ⟨hx, hb, hml, hown, ht⟩ (mt_K_reckon l D (h 5) H.size st.2.1 x_1 p2 p3 ((st.1 1) &&& (1 : Int32)) (st.1 2)) (cwV 5 ht (zgV zw_586 zw_587 zw_588 zw_6 zw_589) rfl rfl rfl kd_K_reckon ⟨Nat.le_of_ble_eq_true rfl, Nat.le_of_ble_eq_true rfl⟩) ⟨zw_blind zw_tt, va_recv (hK.sub (tys' := []) [] rfl) (hP.sub (ws' := wK (h 5) st.2.1) [5] rfl) (ci := 3) (q0 := 0) rfl rfl, zw_go (hP.sub (ws' := wK (h 5) st.2.1) [5] rfl) (hD.sub (ws' := wK (h 5) st.2.1) [5] (by decide) rfl) (hK.sub (tys' := []) [] rfl) (fun _ _ _ => trivial)⟩ rfl rfl hl.1 rfl (lv_room (Nat.le_of_ble_eq_true rfl)) d_P_reckonInto_63 ⟨Nat.le_of_ble_eq_true rfl, Nat.le_of_ble_eq_true rfl⟩) hP hD hS hA [5] [0, 1, 2, 3, 4] [0, 1, 2, 3, 4, 5] rfl rfl (by decide) (by decide) (by decide) (fun _ => rfl) (fun u_17 H locs hw hP hD hS => ?_)
      have eu_17 := hw
      refine lv_iload hx hb d_P_reckonInto_66 (lv_at hl 0 rfl) ?_
      refine lv_bipush (v := (10 : Int32)) hx hb d_P_reckonInto_68 (by decide) ?_
      refine zcut (X := SP) (G := fun v9 H locs ls => v9 = (if x_1 = (10 : Int32) then (upd st.1 2 (u_17 1), u_17, st.2.2.1, st.2.2.2) else (if x_1 = (11 : Int32) then (upd st.1 2 (u_17 1), u_17, st.2.2.1, st.2.2.2) else (st.1, u_17, st.2.2.1, st.2.2.2))) ∧ va_P D vwCl (wP h c v9) H ∧ va_D A (wP h c v9) ∧ va_S A s.heap H locs ∧ lv_has ls 6 [(0, .ref (h 0)), (1, .int p0), (2, .int p1), (3, .int p2), (4, .int p3), (5, .int x_1)]) (fr := fun v9 ls => F0 m 91 ls []) (fun J_19 => ?_) (fun v9 H locs ls hG => ?_)
      · refine lv_icmp_eq (tgt := 80) hx hb d_P_reckonInto_70 (by decide) (fun c_20 => ?_) (fun c_20 => ?_)
        · refine lv_aload_n hx hb d_P_reckonInto_80 rfl (lv_at hl 1 rfl) ?_
          refine lv_aload_n hx hb d_P_reckonInto_81 rfl (lv_at hl 1 rfl) ?_
          refine va_get (D := D) (ci := 2) (v := .ref (h 5)) (C := "WindowMachine$Processor") (T := T_P) (N := 18) hx hb ht zi_P hown hK hP 0 rfl rfl 2 (by decide) (ht _ zw_119) (fun _ h9 => h9) rfl d_P_reckonInto_82 ?_
          refine va_getN (D := D) (ci := 3) (v := .int (u_17 1)) (C := "WindowMachine$Reckoner") (T := T_K) (N := 4) hx hb ht zi_K hown hK hP 5 rfl rfl 1 (by decide) (va_Nw.use rfl (zz_n88 hZ)) (fun _ h9 => h9) rfl d_P_reckonInto_85 ?_
          refine va_put (D := D) (ci := 2) (v := .int (u_17 1)) (ty := .int) (C := "WindowMachine$Processor") (T := T_P) (N := 18) hx hb ht zi_P ty_P tyok_P nm_P hown hK hP hD hS 0 rfl rfl 5 (by decide) (ht _ zw_123) (fun _ h9 => h9) rfl (by decide +kernel) rfl rfl (Nat.le_of_ble_eq_true rfl) d_P_reckonInto_88 (fun H locs hP hD hS => ?_)
          have hP : va_P D vwCl (wP h c (upd st.1 2 (u_17 1), u_17, st.2.2.1, st.2.2.2)) H := hP
          have hD : va_D A (wP h c (upd st.1 2 (u_17 1), u_17, st.2.2.1, st.2.2.2)) := hD
          exact J_19 (upd st.1 2 (u_17 1), u_17, st.2.2.1, st.2.2.2) _ _ _ ⟨by simp only [if_pos c_20], hP, hD, hS, (lv_sub hl [1, 2, 3, 4, 5, 0] rfl)⟩
        refine lv_iload hx hb d_P_reckonInto_73 (lv_at hl 0 rfl) ?_
        refine lv_bipush (v := (11 : Int32)) hx hb d_P_reckonInto_75 (by decide) ?_
        refine lv_icmp_ne (tgt := 91) hx hb d_P_reckonInto_77 (by decide) (fun c_21 => ?_) (fun c_21 => ?_)
        · exact J_19 (st.1, u_17, st.2.2.1, st.2.2.2) _ _ _ ⟨by simp only [if_neg c_20, if_neg c_21], hP, hD, hS, (lv_sub hl [1, 2, 3, 4, 5, 0] rfl)⟩
        refine lv_aload_n hx hb d_P_reckonInto_80 rfl (lv_at hl 1 rfl) ?_
        refine lv_aload_n hx hb d_P_reckonInto_81 rfl (lv_at hl 1 rfl) ?_
        refine va_get (D := D) (ci := 2) (v := .ref (h 5)) (C := "WindowMachine$Processor") (T := T_P) (N := 18) hx hb ht zi_P hown hK hP 0 rfl rfl 2 (by decide) (ht _ zw_119) (fun _ h9 => h9) rfl d_P_reckonInto_82 ?_
        refine va_getN (D := D) (ci := 3) (v := .int (u_17 1)) (C := "WindowMachine$Reckoner") (T := T_K) (N := 4) hx hb ht zi_K hown hK hP 5 rfl rfl 1 (by decide) (va_Nw.use rfl (zz_n88 hZ)) (fun _ h9 => h9) rfl d_P_reckonInto_85 ?_
        refine va_put (D := D) (ci := 2) (v := .int (u_17 1)) (ty := .int) (C := "WindowMachine$Processor") (T := T_P) (N := 18) hx hb ht zi_P ty_P tyok_P nm_P hown hK hP hD hS 0 rfl rfl 5 (by decide) (ht _ zw_123) (fun _ h9 => h9) rfl (by decide +kernel) rfl rfl (Nat.le_of_ble_eq_true rfl) d_P_reckonInto_88 (fun H locs hP hD hS => ?_)
        have hP : va_P D vwCl (wP h c (upd st.1 2 (u_17 1), u_17, st.2.2.1, st.2.2.2)) H := hP
        have hD : va_D A (wP h c (upd st.1 2 (u_17 1), u_17, st.2.2.1, st.2.2.2)) := hD
        exact J_19 (upd st.1 2 (u_17 1), u_17, st.2.2.1, st.2.2.2) _ _ _ ⟨by simp only [if_neg c_20, if_pos c_21], hP, hD, hS, (lv_sub hl [1, 2, 3, 4, 5, 0] rfl)⟩
      obtain ⟨u_18, rfl⟩ : ∃ z, z = v9 := ⟨_, rfl⟩
      obtain ⟨eu_18, hP, hD, hS, hl⟩ := hG
      refine lv_iload_n hx hb d_P_reckonInto_91 rfl (lv_at hl 2 rfl) ?_
      refine lv_bipush (v := (16 : Int32)) hx hb d_P_reckonInto_92 (by decide) ?_
      refine zcut (X := SP) (G := fun v9 H locs ls => v9 = (if p1 < (16 : Int32) then u_18 else (upd u_18.1 1 (f_kflags u_18.2.1), u_18.2.1, u_18.2.2.1, u_18.2.2.2)) ∧ va_P D vwCl (wP h c v9) H ∧ va_D A (wP h c v9) ∧ va_S A s.heap H locs ∧ lv_has ls 6 [(0, .ref (h 0)), (1, .int p0), (2, .int p1), (3, .int p2), (4, .int p3), (5, .int x_1)]) (fr := fun v9 ls => F0 m 108 ls []) (fun J_23 => ?_) (fun v9 H locs ls hG => ?_)
      · refine lv_icmp_lt (tgt := 108) hx hb d_P_reckonInto_94 (by decide) (fun c_24 => ?_) (fun c_24 => ?_)
        · exact J_23 u_18 _ _ _ ⟨by simp only [if_pos c_24], hP, hD, hS, hl⟩
        refine lv_aload_n hx hb d_P_reckonInto_97 rfl (lv_at hl 0 rfl) ?_
        refine lv_aload_n hx hb d_P_reckonInto_98 rfl (lv_at hl 0 rfl) ?_
        refine va_get (D := D) (ci := 2) (v := .ref (h 5)) (C := "WindowMachine$Processor") (T := T_P) (N := 18) hx hb ht zi_P hown hK hP 0 rfl rfl 2 (by decide) (ht _ zw_119) (fun _ h9 => h9) rfl d_P_reckonInto_99 ?_
        refine zc_i (w2 := fun _ => wP h c u_18) (va_runV (As := []) (rest := [.ref (h 0)]) ⟨hx, hb, hml, hown, ht⟩ (mt_K_flags l D (h 5) H.size u_18.2.1) (cwV 0 ht (zgV zw_628 zw_629 zw_630 zw_6 zw_631) rfl rfl rfl kd_K_flags ⟨Nat.le_of_ble_eq_true rfl, Nat.le_of_ble_eq_true rfl⟩) ⟨zw_blind zw_tt, va_recv (hK.sub (tys' := []) [] rfl) (hP.sub (ws' := wK (h 5) u_18.2.1) [5] rfl) (ci := 3) (q0 := 0) rfl rfl, zw_go (hP.sub (ws' := wK (h 5) u_18.2.1) [5] rfl) (hD.sub (ws' := wK (h 5) u_18.2.1) [5] (by decide) rfl) (hK.sub (tys' := []) [] rfl) (fun _ _ _ => trivial)⟩ rfl rfl hl.1 rfl (lv_room (Nat.le_of_ble_eq_true rfl)) d_P_reckonInto_102 ⟨Nat.le_of_ble_eq_true rfl, Nat.le_of_ble_eq_true rfl⟩) hP hD hS hA [5] [0, 1, 2, 3, 4] [0, 1, 2, 3, 4, 5] rfl rfl (by decide) (by decide) (by decide) (fun _ => rfl) (fun r_25 _ H locs hw hP hD hS => ?_)
        subst hw
        refine va_put (D := D) (ci := 2) (v := .int (f_kflags u_18.2.1)) (ty := .int) (C := "WindowMachine$Processor") (T := T_P) (N := 18) hx hb ht zi_P ty_P tyok_P nm_P hown hK hP hD hS 0 rfl rfl 4 (by decide) (ht _ zw_122) (fun _ h9 => h9) rfl (by decide +kernel) rfl rfl (Nat.le_of_ble_eq_true rfl) d_P_reckonInto_105 (fun H locs hP hD hS => ?_)
        have hP : va_P D vwCl (wP h c (upd u_18.1 1 (f_kflags u_18.2.1), u_18.2.1, u_18.2.2.1, u_18.2.2.2)) H := hP
        have hD : va_D A (wP h c (upd u_18.1 1 (f_kflags u_18.2.1), u_18.2.1, u_18.2.2.1, u_18.2.2.2)) := hD
        exact J_23 (upd u_18.1 1 (f_kflags u_18.2.1), u_18.2.1, u_18.2.2.1, u_18.2.2.2) _ _ _ ⟨by simp only [if_neg c_24], hP, hD, hS, hl⟩
      obtain ⟨u_22, rfl⟩ : ∃ z, z = v9 := ⟨_, rfl⟩
      obtain ⟨eu_22, hP, hD, hS, hl⟩ := hG
      refine lv_aload_n hx hb d_P_reckonInto_108 rfl (lv_at hl 0 rfl) ?_
      refine lv_iload_n hx hb d_P_reckonInto_109 rfl (lv_at hl 1 rfl) ?_
      refine lv_aload_n hx hb d_P_reckonInto_110 rfl (lv_at hl 0 rfl) ?_
      refine va_get (D := D) (ci := 2) (v := .ref (h 5)) (C := "WindowMachine$Processor") (T := T_P) (N := 18) hx hb ht zi_P hown hK hP 0 rfl rfl 2 (by decide) (ht _ zw_119) (fun _ h9 => h9) rfl d_P_reckonInto_111 ?_
      refine va_getN (D := D) (ci := 3) (v := .int (u_22.2.1 0)) (C := "WindowMachine$Reckoner") (T := T_K) (N := 4) hx hb ht zi_K hown hK hP 5 rfl rfl 0 (by decide) (va_Nw.use rfl (zz_n86 hZ)) (fun _ h9 => h9) rfl d_P_reckonInto_114 ?_
      refine zc_i (w2 := fun u9 => wP h c u9) (va_runV (As := [.int p0, .int (u_22.2.1 0)]) (rest := []) ⟨hx, hb, hml, hown, ht⟩ (mt_P_deliver l D h c H.size u_22 p0 (u_22.2.1 0) (by simp only [eu_22, eu_18, eu_17]; (repeat' split) <;> exact hW)) (cwV 2 ht (zgV zw_546 zw_548 zs_26 zw_4 zw_549) rfl rfl rfl kd_P_deliver ⟨Nat.le_of_ble_eq_true rfl, Nat.le_of_ble_eq_true rfl⟩) ⟨zw_blind zw_tt, va_recv (hK.sub (tys' := [(c 0, .int), (c 1, .int)]) [0, 1] rfl) (hP.sub (ws' := wP h c u_22) [0, 1, 2, 3, 4, 5] rfl) (ci := 2) (q0 := 0) rfl rfl, zw_go (hP.sub (ws' := wP h c u_22) [0, 1, 2, 3, 4, 5] rfl) (hD.sub (ws' := wP h c u_22) [0, 1, 2, 3, 4, 5] (by decide) rfl) (hK.sub (tys' := [(c 0, .int), (c 1, .int)]) [0, 1] rfl) (fun _ _ _ => trivial)⟩ rfl rfl hl.1 rfl (lv_room (Nat.le_of_ble_eq_true rfl)) d_P_reckonInto_117 ⟨Nat.le_of_ble_eq_true rfl, Nat.le_of_ble_eq_true rfl⟩) hP hD hS hA [0, 1, 2, 3, 4, 5] [] [0, 1, 2, 3, 4, 5] rfl rfl (by decide) (by decide) (by decide) (fun _ => rfl) (fun r_26 u_26 H locs hw hP hD hS => ?_)
      obtain ⟨er_26, eu_26⟩ := hw
      exact zl_i (u := u_26) hx hb hr hlocks hS hP hD (⟨by subst ex_1; subst eu_17; subst eu_18; subst eu_22; subst er_26; subst eu_26; simp only [f_reckonInto, if_neg c_2, if_neg c_3, if_neg c_4, if_neg c_16], by subst ex_1; subst eu_17; subst eu_18; subst eu_22; subst er_26; subst eu_26; simp only [f_reckonInto, if_neg c_2, if_neg c_3, if_neg c_4, if_neg c_16]⟩) d_P_reckonInto_120
    refine lv_iload hx hb d_P_reckonInto_36 (lv_at hl 5 rfl) ?_
    refine lv_if_ne (tgt := 44) hx hb d_P_reckonInto_38 (by decide) (fun c_27 => ?_) (fun c_27 => ?_)
    · refine lv_aload_n hx hb d_P_reckonInto_44 rfl (lv_at hl 1 rfl) ?_
      refine va_get (D := D) (ci := 2) (v := .ref (h 5)) (C := "WindowMachine$Processor") (T := T_P) (N := 18) hx hb ht zi_P hown hK hP 0 rfl rfl 2 (by decide) (ht _ zw_119) (fun _ h9 => h9) rfl d_P_reckonInto_45 ?_
      refine lv_iload hx hb d_P_reckonInto_48 (lv_at hl 0 rfl) ?_
      refine lv_iload_n hx hb d_P_reckonInto_50 rfl (lv_at hl 4 rfl) ?_
      refine lv_iload hx hb d_P_reckonInto_51 (lv_at hl 5 rfl) ?_
      refine lv_aload_n hx hb d_P_reckonInto_53 rfl (lv_at hl 1 rfl) ?_
      refine va_get (D := D) (ci := 2) (v := .int (st.1 1)) (C := "WindowMachine$Processor") (T := T_P) (N := 18) hx hb ht zi_P hown hK hP 0 rfl rfl 4 (by decide) (ht _ zw_122) (fun _ h9 => h9) rfl d_P_reckonInto_54 ?_
      refine lv_iconst (v := (1 : Int32)) hx hb d_P_reckonInto_57 (by decide) ?_
      refine lv_iand hx hb d_P_reckonInto_58 ?_
      refine lv_aload_n hx hb d_P_reckonInto_59 rfl (lv_at hl 1 rfl) ?_
      refine va_get (D := D) (ci := 2) (v := .int (st.1 2)) (C := "WindowMachine$Processor") (T := T_P) (N := 18) hx hb ht zi_P hown hK hP 0 rfl rfl 5 (by decide) (ht _ zw_123) (fun _ h9 => h9) rfl d_P_reckonInto_60 ?_
      refine zc_v (w2 := fun u9 => wP h c (st.1, u9, st.2.2.1, st.2.2.2)) (va_runV (As := [.int x_1, .int p2, .int p3, .int ((st.1 1) &&& (1 : Int32)), .int (st.1 2)]) (rest := []) ⟨hx, hb, hml, hown, ht⟩ (mt_K_reckon l D (h 5) H.size st.2.1 x_1 p2 p3 ((st.1 1) &&& (1 : Int32)) (st.1 2)) (cwV 5 ht (zgV zw_586 zw_587 zw_588 zw_6 zw_589) rfl rfl rfl kd_K_reckon ⟨Nat.le_of_ble_eq_true rfl, Nat.le_of_ble_eq_true rfl⟩) ⟨zw_blind zw_tt, va_recv (hK.sub (tys' := []) [] rfl) (hP.sub (ws' := wK (h 5) st.2.1) [5] rfl) (ci := 3) (q0 := 0) rfl rfl, zw_go (hP.sub (ws' := wK (h 5) st.2.1) [5] rfl) (hD.sub (ws' := wK (h 5) st.2.1) [5] (by decide) rfl) (hK.sub (tys' := []) [] rfl) (fun _ _ _ => trivial)⟩ rfl rfl hl.1 rfl (lv_room (Nat.le_of_ble_eq_true rfl)) d_P_reckonInto_63 ⟨Nat.le_of_ble_eq_true rfl, Nat.le_of_ble_eq_true rfl⟩) hP hD hS hA [5] [0, 1, 2, 3, 4] [0, 1, 2, 3, 4, 5] rfl rfl (by decide) (by decide) (by decide) (fun _ => rfl) (fun u_28 H locs hw hP hD hS => ?_)
      have eu_28 := hw
      refine lv_iload hx hb d_P_reckonInto_66 (lv_at hl 0 rfl) ?_
      refine lv_bipush (v := (10 : Int32)) hx hb d_P_reckonInto_68 (by decide) ?_
      refine zcut (X := SP) (G := fun v9 H locs ls => v9 = (if x_1 = (10 : Int32) then (upd st.1 2 (u_28 1), u_28, st.2.2.1, st.2.2.2) else (if x_1 = (11 : Int32) then (upd st.1 2 (u_28 1), u_28, st.2.2.1, st.2.2.2) else (st.1, u_28, st.2.2.1, st.2.2.2))) ∧ va_P D vwCl (wP h c v9) H ∧ va_D A (wP h c v9) ∧ va_S A s.heap H locs ∧ lv_has ls 6 [(0, .ref (h 0)), (1, .int p0), (2, .int p1), (3, .int p2), (4, .int p3), (5, .int x_1)]) (fr := fun v9 ls => F0 m 91 ls []) (fun J_30 => ?_) (fun v9 H locs ls hG => ?_)
      · refine lv_icmp_eq (tgt := 80) hx hb d_P_reckonInto_70 (by decide) (fun c_31 => ?_) (fun c_31 => ?_)
        · refine lv_aload_n hx hb d_P_reckonInto_80 rfl (lv_at hl 1 rfl) ?_
          refine lv_aload_n hx hb d_P_reckonInto_81 rfl (lv_at hl 1 rfl) ?_
          refine va_get (D := D) (ci := 2) (v := .ref (h 5)) (C := "WindowMachine$Processor") (T := T_P) (N := 18) hx hb ht zi_P hown hK hP 0 rfl rfl 2 (by decide) (ht _ zw_119) (fun _ h9 => h9) rfl d_P_reckonInto_82 ?_
          refine va_getN (D := D) (ci := 3) (v := .int (u_28 1)) (C := "WindowMachine$Reckoner") (T := T_K) (N := 4) hx hb ht zi_K hown hK hP 5 rfl rfl 1 (by decide) (va_Nw.use rfl (zz_n88 hZ)) (fun _ h9 => h9) rfl d_P_reckonInto_85 ?_
          refine va_put (D := D) (ci := 2) (v := .int (u_28 1)) (ty := .int) (C := "WindowMachine$Processor") (T := T_P) (N := 18) hx hb ht zi_P ty_P tyok_P nm_P hown hK hP hD hS 0 rfl rfl 5 (by decide) (ht _ zw_123) (fun _ h9 => h9) rfl (by decide +kernel) rfl rfl (Nat.le_of_ble_eq_true rfl) d_P_reckonInto_88 (fun H locs hP hD hS => ?_)
          have hP : va_P D vwCl (wP h c (upd st.1 2 (u_28 1), u_28, st.2.2.1, st.2.2.2)) H := hP
          have hD : va_D A (wP h c (upd st.1 2 (u_28 1), u_28, st.2.2.1, st.2.2.2)) := hD
          exact J_30 (upd st.1 2 (u_28 1), u_28, st.2.2.1, st.2.2.2) _ _ _ ⟨by simp only [if_pos c_31], hP, hD, hS, (lv_sub hl [1, 2, 3, 4, 5, 0] rfl)⟩
        refine lv_iload hx hb d_P_reckonInto_73 (lv_at hl 0 rfl) ?_
        refine lv_bipush (v := (11 : Int32)) hx hb d_P_reckonInto_75 (by decide) ?_
        refine lv_icmp_ne (tgt := 91) hx hb d_P_reckonInto_77 (by decide) (fun c_32 => ?_) (fun c_32 => ?_)
        · exact J_30 (st.1, u_28, st.2.2.1, st.2.2.2) _ _ _ ⟨by simp only [if_neg c_31, if_neg c_32], hP, hD, hS, (lv_sub hl [1, 2, 3, 4, 5, 0] rfl)⟩
        refine lv_aload_n hx hb d_P_reckonInto_80 rfl (lv_at hl 1 rfl) ?_
        refine lv_aload_n hx hb d_P_reckonInto_81 rfl (lv_at hl 1 rfl) ?_
        refine va_get (D := D) (ci := 2) (v := .ref (h 5)) (C := "WindowMachine$Processor") (T := T_P) (N := 18) hx hb ht zi_P hown hK hP 0 rfl rfl 2 (by decide) (ht _ zw_119) (fun _ h9 => h9) rfl d_P_reckonInto_82 ?_
        refine va_getN (D := D) (ci := 3) (v := .int (u_28 1)) (C := "WindowMachine$Reckoner") (T := T_K) (N := 4) hx hb ht zi_K hown hK hP 5 rfl rfl 1 (by decide) (va_Nw.use rfl (zz_n88 hZ)) (fun _ h9 => h9) rfl d_P_reckonInto_85 ?_
        refine va_put (D := D) (ci := 2) (v := .int (u_28 1)) (ty := .int) (C := "WindowMachine$Processor") (T := T_P) (N := 18) hx hb ht zi_P ty_P tyok_P nm_P hown hK hP hD hS 0 rfl rfl 5 (by decide) (ht _ zw_123) (fun _ h9 => h9) rfl (by decide +kernel) rfl rfl (Nat.le_of_ble_eq_true rfl) d_P_reckonInto_88 (fun H locs hP hD hS => ?_)
        have hP : va_P D vwCl (wP h c (upd st.1 2 (u_28 1), u_28, st.2.2.1, st.2.2.2)) H := hP
        have hD : va_D A (wP h c (upd st.1 2 (u_28 1), u_28, st.2.2.1, st.2.2.2)) := hD
        exact J_30 (upd st.1 2 (u_28 1), u_28, st.2.2.1, st.2.2.2) _ _ _ ⟨by simp only [if_neg c_31, if_pos c_32], hP, hD, hS, (lv_sub hl [1, 2, 3, 4, 5, 0] rfl)⟩
      obtain ⟨u_29, rfl⟩ : ∃ z, z = v9 := ⟨_, rfl⟩
      obtain ⟨eu_29, hP, hD, hS, hl⟩ := hG
      refine lv_iload_n hx hb d_P_reckonInto_91 rfl (lv_at hl 2 rfl) ?_
      refine lv_bipush (v := (16 : Int32)) hx hb d_P_reckonInto_92 (by decide) ?_
      refine zcut (X := SP) (G := fun v9 H locs ls => v9 = (if p1 < (16 : Int32) then u_29 else (upd u_29.1 1 (f_kflags u_29.2.1), u_29.2.1, u_29.2.2.1, u_29.2.2.2)) ∧ va_P D vwCl (wP h c v9) H ∧ va_D A (wP h c v9) ∧ va_S A s.heap H locs ∧ lv_has ls 6 [(0, .ref (h 0)), (1, .int p0), (2, .int p1), (3, .int p2), (4, .int p3), (5, .int x_1)]) (fr := fun v9 ls => F0 m 108 ls []) (fun J_34 => ?_) (fun v9 H locs ls hG => ?_)
      · refine lv_icmp_lt (tgt := 108) hx hb d_P_reckonInto_94 (by decide) (fun c_35 => ?_) (fun c_35 => ?_)
        · exact J_34 u_29 _ _ _ ⟨by simp only [if_pos c_35], hP, hD, hS, hl⟩
        refine lv_aload_n hx hb d_P_reckonInto_97 rfl (lv_at hl 0 rfl) ?_
        refine lv_aload_n hx hb d_P_reckonInto_98 rfl (lv_at hl 0 rfl) ?_
        refine va_get (D := D) (ci := 2) (v := .ref (h 5)) (C := "WindowMachine$Processor") (T := T_P) (N := 18) hx hb ht zi_P hown hK hP 0 rfl rfl 2 (by decide) (ht _ zw_119) (fun _ h9 => h9) rfl d_P_reckonInto_99 ?_
        refine zc_i (w2 := fun _ => wP h c u_29) (va_runV (As := []) (rest := [.ref (h 0)]) ⟨hx, hb, hml, hown, ht⟩ (mt_K_flags l D (h 5) H.size u_29.2.1) (cwV 0 ht (zgV zw_628 zw_629 zw_630 zw_6 zw_631) rfl rfl rfl kd_K_flags ⟨Nat.le_of_ble_eq_true rfl, Nat.le_of_ble_eq_true rfl⟩) ⟨zw_blind zw_tt, va_recv (hK.sub (tys' := []) [] rfl) (hP.sub (ws' := wK (h 5) u_29.2.1) [5] rfl) (ci := 3) (q0 := 0) rfl rfl, zw_go (hP.sub (ws' := wK (h 5) u_29.2.1) [5] rfl) (hD.sub (ws' := wK (h 5) u_29.2.1) [5] (by decide) rfl) (hK.sub (tys' := []) [] rfl) (fun _ _ _ => trivial)⟩ rfl rfl hl.1 rfl (lv_room (Nat.le_of_ble_eq_true rfl)) d_P_reckonInto_102 ⟨Nat.le_of_ble_eq_true rfl, Nat.le_of_ble_eq_true rfl⟩) hP hD hS hA [5] [0, 1, 2, 3, 4] [0, 1, 2, 3, 4, 5] rfl rfl (by decide) (by decide) (by decide) (fun _ => rfl) (fun r_36 _ H locs hw hP hD hS => ?_)
        subst hw
        refine va_put (D := D) (ci := 2) (v := .int (f_kflags u_29.2.1)) (ty := .int) (C := "WindowMachine$Processor") (T := T_P) (N := 18) hx hb ht zi_P ty_P tyok_P nm_P hown hK hP hD hS 0 rfl rfl 4 (by decide) (ht _ zw_122) (fun _ h9 => h9) rfl (by decide +kernel) rfl rfl (Nat.le_of_ble_eq_true rfl) d_P_reckonInto_105 (fun H locs hP hD hS => ?_)
        have hP : va_P D vwCl (wP h c (upd u_29.1 1 (f_kflags u_29.2.1), u_29.2.1, u_29.2.2.1, u_29.2.2.2)) H := hP
        have hD : va_D A (wP h c (upd u_29.1 1 (f_kflags u_29.2.1), u_29.2.1, u_29.2.2.1, u_29.2.2.2)) := hD
        exact J_34 (upd u_29.1 1 (f_kflags u_29.2.1), u_29.2.1, u_29.2.2.1, u_29.2.2.2) _ _ _ ⟨by simp only [if_neg c_35], hP, hD, hS, hl⟩
      obtain ⟨u_33, rfl⟩ : ∃ z, z = v9 := ⟨_, rfl⟩
      obtain ⟨eu_33, hP, hD, hS, hl⟩ := hG
      refine lv_aload_n hx hb d_P_reckonInto_108 rfl (lv_at hl 0 rfl) ?_
      refine lv_iload_n hx hb d_P_reckonInto_109 rfl (lv_at hl 1 rfl) ?_
      refine lv_aload_n hx hb d_P_reckonInto_110 rfl (lv_at hl 0 rfl) ?_
      refine va_get (D := D) (ci := 2) (v := .ref (h 5)) (C := "WindowMachine$Processor") (T := T_P) (N := 18) hx hb ht zi_P hown hK hP 0 rfl rfl 2 (by decide) (ht _ zw_119) (fun _ h9 => h9) rfl d_P_reckonInto_111 ?_
      refine va_getN (D := D) (ci := 3) (v := .int (u_33.2.1 0)) (C := "WindowMachine$Reckoner") (T := T_K) (N := 4) hx hb ht zi_K hown hK hP 5 rfl rfl 0 (by decide) (va_Nw.use rfl (zz_n86 hZ)) (fun _ h9 => h9) rfl d_P_reckonInto_114 ?_
      refine zc_i (w2 := fun u9 => wP h c u9) (va_runV (As := [.int p0, .int (u_33.2.1 0)]) (rest := []) ⟨hx, hb, hml, hown, ht⟩ (mt_P_deliver l D h c H.size u_33 p0 (u_33.2.1 0) (by simp only [eu_33, eu_29, eu_28]; (repeat' split) <;> exact hW)) (cwV 2 ht (zgV zw_546 zw_548 zs_26 zw_4 zw_549) rfl rfl rfl kd_P_deliver ⟨Nat.le_of_ble_eq_true rfl, Nat.le_of_ble_eq_true rfl⟩) ⟨zw_blind zw_tt, va_recv (hK.sub (tys' := [(c 0, .int), (c 1, .int)]) [0, 1] rfl) (hP.sub (ws' := wP h c u_33) [0, 1, 2, 3, 4, 5] rfl) (ci := 2) (q0 := 0) rfl rfl, zw_go (hP.sub (ws' := wP h c u_33) [0, 1, 2, 3, 4, 5] rfl) (hD.sub (ws' := wP h c u_33) [0, 1, 2, 3, 4, 5] (by decide) rfl) (hK.sub (tys' := [(c 0, .int), (c 1, .int)]) [0, 1] rfl) (fun _ _ _ => trivial)⟩ rfl rfl hl.1 rfl (lv_room (Nat.le_of_ble_eq_true rfl)) d_P_reckonInto_117 ⟨Nat.le_of_ble_eq_true rfl, Nat.le_of_ble_eq_true rfl⟩) hP hD hS hA [0, 1, 2, 3, 4, 5] [] [0, 1, 2, 3, 4, 5] rfl rfl (by decide) (by decide) (by decide) (fun _ => rfl) (fun r_37 u_37 H locs hw hP hD hS => ?_)
      obtain ⟨er_37, eu_37⟩ := hw
      exact zl_i (u := u_37) hx hb hr hlocks hS hP hD (⟨by subst ex_1; subst eu_28; subst eu_29; subst eu_33; subst er_37; subst eu_37; simp only [f_reckonInto, if_neg c_2, if_neg c_3, if_neg c_4, if_pos c_16, if_neg c_27], by subst ex_1; subst eu_28; subst eu_29; subst eu_33; subst er_37; subst eu_37; simp only [f_reckonInto, if_neg c_2, if_neg c_3, if_neg c_4, if_pos c_16, if_neg c_27]⟩) d_P_reckonInto_120
    refine lv_bipush (v := (42 : Int32)) hx hb d_P_reckonInto_41 (by decide) ?_
    exact zl_i (u := st) hx hb hr hlocks hS hP hD (⟨by subst ex_1; simp only [f_reckonInto, if_neg c_2, if_neg c_3, if_neg c_4, if_pos c_16, if_pos c_27], by subst ex_1; simp only [f_reckonInto, if_neg c_2, if_neg c_3, if_neg c_4, if_pos c_16, if_pos c_27]⟩) d_P_reckonInto_43
  refine lv_iconst (v := (2 : Int32)) hx hb d_P_reckonInto_20 (by decide) ?_
  exact zl_i (u := st) hx hb hr hlocks hS hP hD (⟨by subst ex_1; simp only [f_reckonInto, if_neg c_2, if_pos c_3], by subst ex_1; simp only [f_reckonInto, if_neg c_2, if_pos c_3]⟩) d_P_reckonInto_21
theorem d_P_multiplyStep_0 : decode c_P_multiplyStep 0 = .ok (.aload_n 0, 1) := by decide +kernel
theorem d_P_multiplyStep_1 : decode c_P_multiplyStep 1 = .ok (.getfield 63, 3) := by decide +kernel
theorem d_P_multiplyStep_4 : decode c_P_multiplyStep 4 = .ok (.iconst 3, 1) := by decide +kernel
theorem d_P_multiplyStep_5 : decode c_P_multiplyStep 5 = .ok (.ishr, 1) := by decide +kernel
theorem d_P_multiplyStep_6 : decode c_P_multiplyStep 6 = .ok (.aload_n 0, 1) := by decide +kernel
theorem d_P_multiplyStep_7 : decode c_P_multiplyStep 7 = .ok (.getfield 63, 3) := by decide +kernel
theorem d_P_multiplyStep_10 : decode c_P_multiplyStep 10 = .ok (.iconst 1, 1) := by decide +kernel
theorem d_P_multiplyStep_11 : decode c_P_multiplyStep 11 = .ok (.ishr, 1) := by decide +kernel
theorem d_P_multiplyStep_12 : decode c_P_multiplyStep 12 = .ok (.ixor, 1) := by decide +kernel
theorem d_P_multiplyStep_13 : decode c_P_multiplyStep 13 = .ok (.iconst 1, 1) := by decide +kernel
theorem d_P_multiplyStep_14 : decode c_P_multiplyStep 14 = .ok (.iand, 1) := by decide +kernel
theorem d_P_multiplyStep_15 : decode c_P_multiplyStep 15 = .ok (.istore 4, 2) := by decide +kernel
theorem d_P_multiplyStep_17 : decode c_P_multiplyStep 17 = .ok (.aload_n 0, 1) := by decide +kernel
theorem d_P_multiplyStep_18 : decode c_P_multiplyStep 18 = .ok (.getfield 25, 3) := by decide +kernel
theorem d_P_multiplyStep_21 : decode c_P_multiplyStep 21 = .ok (.iload_n 2, 1) := by decide +kernel
theorem d_P_multiplyStep_22 : decode c_P_multiplyStep 22 = .ok (.iconst 1, 1) := by decide +kernel
theorem d_P_multiplyStep_23 : decode c_P_multiplyStep 23 = .ok (.iushr, 1) := by decide +kernel
theorem d_P_multiplyStep_24 : decode c_P_multiplyStep 24 = .ok (.iload 4, 2) := by decide +kernel
theorem d_P_multiplyStep_26 : decode c_P_multiplyStep 26 = .ok (.bipush 31, 2) := by decide +kernel
theorem d_P_multiplyStep_28 : decode c_P_multiplyStep 28 = .ok (.ishl, 1) := by decide +kernel
theorem d_P_multiplyStep_29 : decode c_P_multiplyStep 29 = .ok (.ior, 1) := by decide +kernel
theorem d_P_multiplyStep_30 : decode c_P_multiplyStep 30 = .ok (.aload_n 0, 1) := by decide +kernel
theorem d_P_multiplyStep_31 : decode c_P_multiplyStep 31 = .ok (.getfield 66, 3) := by decide +kernel
theorem d_P_multiplyStep_34 : decode c_P_multiplyStep 34 = .ok (.iconst 1, 1) := by decide +kernel
theorem d_P_multiplyStep_35 : decode c_P_multiplyStep 35 = .ok (.iand, 1) := by decide +kernel
theorem d_P_multiplyStep_36 : decode c_P_multiplyStep 36 = .ok (.ifCond .ne 7, 3) := by decide +kernel
theorem d_P_multiplyStep_39 : decode c_P_multiplyStep 39 = .ok (.iconst 0, 1) := by decide +kernel
theorem d_P_multiplyStep_40 : decode c_P_multiplyStep 40 = .ok (.goto 4, 3) := by decide +kernel
theorem d_P_multiplyStep_43 : decode c_P_multiplyStep 43 = .ok (.iload_n 3, 1) := by decide +kernel
theorem d_P_multiplyStep_44 : decode c_P_multiplyStep 44 = .ok (.iconst 0, 1) := by decide +kernel
theorem d_P_multiplyStep_45 : decode c_P_multiplyStep 45 = .ok (.invokevirtual 194, 3) := by decide +kernel
theorem d_P_multiplyStep_48 : decode c_P_multiplyStep 48 = .ok (.aload_n 0, 1) := by decide +kernel
theorem d_P_multiplyStep_49 : decode c_P_multiplyStep 49 = .ok (.aload_n 0, 1) := by decide +kernel
theorem d_P_multiplyStep_50 : decode c_P_multiplyStep 50 = .ok (.getfield 25, 3) := by decide +kernel
theorem d_P_multiplyStep_53 : decode c_P_multiplyStep 53 = .ok (.invokevirtual 189, 3) := by decide +kernel
theorem d_P_multiplyStep_56 : decode c_P_multiplyStep 56 = .ok (.putfield 63, 3) := by decide +kernel
theorem d_P_multiplyStep_59 : decode c_P_multiplyStep 59 = .ok (.aload_n 0, 1) := by decide +kernel
theorem d_P_multiplyStep_60 : decode c_P_multiplyStep 60 = .ok (.aload_n 0, 1) := by decide +kernel
theorem d_P_multiplyStep_61 : decode c_P_multiplyStep 61 = .ok (.getfield 66, 3) := by decide +kernel
theorem d_P_multiplyStep_64 : decode c_P_multiplyStep 64 = .ok (.iconst 1, 1) := by decide +kernel
theorem d_P_multiplyStep_65 : decode c_P_multiplyStep 65 = .ok (.iushr, 1) := by decide +kernel
theorem d_P_multiplyStep_66 : decode c_P_multiplyStep 66 = .ok (.iload_n 2, 1) := by decide +kernel
theorem d_P_multiplyStep_67 : decode c_P_multiplyStep 67 = .ok (.bipush 31, 2) := by decide +kernel
theorem d_P_multiplyStep_69 : decode c_P_multiplyStep 69 = .ok (.ishl, 1) := by decide +kernel
theorem d_P_multiplyStep_70 : decode c_P_multiplyStep 70 = .ok (.ior, 1) := by decide +kernel
theorem d_P_multiplyStep_71 : decode c_P_multiplyStep 71 = .ok (.putfield 66, 3) := by decide +kernel
theorem d_P_multiplyStep_74 : decode c_P_multiplyStep 74 = .ok (.aload_n 0, 1) := by decide +kernel
theorem d_P_multiplyStep_75 : decode c_P_multiplyStep 75 = .ok (.iload_n 1, 1) := by decide +kernel
theorem d_P_multiplyStep_76 : decode c_P_multiplyStep 76 = .ok (.aload_n 0, 1) := by decide +kernel
theorem d_P_multiplyStep_77 : decode c_P_multiplyStep 77 = .ok (.getfield 25, 3) := by decide +kernel
theorem d_P_multiplyStep_80 : decode c_P_multiplyStep 80 = .ok (.getfield 191, 3) := by decide +kernel
theorem d_P_multiplyStep_83 : decode c_P_multiplyStep 83 = .ok (.invokevirtual 130, 3) := by decide +kernel
theorem d_P_multiplyStep_86 : decode c_P_multiplyStep 86 = .ok (.ireturn, 1) := by decide +kernel
theorem kd_P_multiplyStep : (y_P_multiplyStep).cls = "WindowMachine$Processor" ∧ (y_P_multiplyStep).cls ≠ "java/lang/invoke/MethodHandle" ∧ (y_P_multiplyStep).cls ≠ "java/lang/invoke/VarHandle" ∧ (parseMethodDescriptor (y_P_multiplyStep).desc).map (fun d => d.parameters.length) = some 3 := by decide +kernel
def f_multiplyStep (st : SP) (p0 : Int32) (p1 : Int32) (p2 : Int32) : Int32 × SP := (let x_1 := (((st.1 1) >>> ((3 : Int32) &&& 31)) ^^^ ((st.1 1) >>> ((1 : Int32) &&& 31))) &&& (1 : Int32); (let x_2 := (if ((st.1 2) &&& (1 : Int32)) = (0 : Int32) then (0 : Int32) else p2); (let u_5 := f_kadd st.2.1 ((zushr p1 (1 : Int32)) ||| (x_1 <<< ((31 : Int32) &&& 31))) x_2 (0 : Int32); (let r_7 := (f_deliver (upd (upd st.1 1 (f_kflags u_5)) 2 ((zushr (st.1 2) (1 : Int32)) ||| (p1 <<< ((31 : Int32) &&& 31))), u_5, st.2.2.1, st.2.2.2) p0 (u_5 0)).1; (let u_7 := (f_deliver (upd (upd st.1 1 (f_kflags u_5)) 2 ((zushr (st.1 2) (1 : Int32)) ||| (p1 <<< ((31 : Int32) &&& 31))), u_5, st.2.2.1, st.2.2.2) p0 (u_5 0)).2; (r_7, u_7))))))
set_option maxHeartbeats 4000000 in
set_option maxRecDepth 100000 in
theorem mt_P_multiplyStep (l : Launch) (D : va_G) (za zk zv : Nat → Nat) (h : Nat → Nat) (c : Nat → ClassId) (sz : Nat) (st : SP) (p0 : Int32) (p1 : Int32) (p2 : Int32) (hW : vp_in (st.1 0) 4) : Met l y_P_multiplyStep w_P_multiplyStep ({ frames := 3, cells := 0, slots := 0, locals := 66 }) (va_Pc [.ref (h 0), .int p0, .int p1, .int p2] (zw_pre D vwCl [(c 0, .int), (c 1, .int)] sz (wP h c st) (zz za zk zv (va_A (wP h c st) sz)))) (va_Qi (fun r (u : SP) => r = (f_multiplyStep st p0 p1 p2).1 ∧ u = (f_multiplyStep st p0 p1 p2).2) (fun u t => zw_at D vwCl (va_A (wP h c st) sz) ((fun (u : SP) => wP h c u) u) t) (va_A (wP h c st) sz)) 0 0 (va_A (wP h c st) sz) := by
  refine zm (Qf := fun A => va_Qi (fun r (u : SP) => r = (f_multiplyStep st p0 p1 p2).1 ∧ u = (f_multiplyStep st p0 p1 p2).2) (fun u t => zw_at D vwCl A ((fun (u : SP) => wP h c u) u) t) A) (Zf := fun A => zz za zk zv A) (cc := c_P_multiplyStep) (nL := 5) (ret := (some .int)) (by decide) rfl (Nat.le_of_ble_eq_true rfl) ?_
  intro p e s m below meth c9 A H locs ls hx hb hml hown hts hr hlocks hA hK hP hD hS hZ hl
  have hl : lv_has ls 5 [(0, .ref (h 0)), (1, .int p0), (2, .int p1), (3, .int p2)] := hl
  have ht : ∀ w9 ∈ zT, w9.before _ s = true := fun w9 h9 => hts w9 (List.mem_cons_of_mem _ h9)
  refine lv_aload_n hx hb d_P_multiplyStep_0 rfl (lv_at hl 0 rfl) ?_
  refine va_get (D := D) (ci := 2) (v := .int (st.1 1)) (C := "WindowMachine$Processor") (T := T_P) (N := 18) hx hb ht zi_P hown hK hP 0 rfl rfl 4 (by decide) (ht _ zw_122) (fun _ h9 => h9) rfl d_P_multiplyStep_1 ?_
  refine lv_iconst (v := (3 : Int32)) hx hb d_P_multiplyStep_4 (by decide) ?_
  refine lv_ishr hx hb d_P_multiplyStep_5 ?_
  refine lv_aload_n hx hb d_P_multiplyStep_6 rfl (lv_at hl 0 rfl) ?_
  refine va_get (D := D) (ci := 2) (v := .int (st.1 1)) (C := "WindowMachine$Processor") (T := T_P) (N := 18) hx hb ht zi_P hown hK hP 0 rfl rfl 4 (by decide) (ht _ zw_122) (fun _ h9 => h9) rfl d_P_multiplyStep_7 ?_
  refine lv_iconst (v := (1 : Int32)) hx hb d_P_multiplyStep_10 (by decide) ?_
  refine lv_ishr hx hb d_P_multiplyStep_11 ?_
  refine lv_ixor hx hb d_P_multiplyStep_12 ?_
  refine lv_iconst (v := (1 : Int32)) hx hb d_P_multiplyStep_13 (by decide) ?_
  refine lv_iand hx hb d_P_multiplyStep_14 ?_
  refine lv_topi (fun x_1 ex_1 => ?_)
  refine lv_istore (lv' := [(4, .int x_1), (0, .ref (h 0)), (1, .int p0), (2, .int p1), (3, .int p2)]) hx hb d_P_multiplyStep_15 hl (by decide) rfl (fun ls hl => ?_)
  refine lv_aload_n hx hb d_P_multiplyStep_17 rfl (lv_at hl 1 rfl) ?_
  refine va_get (D := D) (ci := 2) (v := .ref (h 5)) (C := "WindowMachine$Processor") (T := T_P) (N := 18) hx hb ht zi_P hown hK hP 0 rfl rfl 2 (by decide) (ht _ zw_119) (fun _ h9 => h9) rfl d_P_multiplyStep_18 ?_
  refine lv_iload_n hx hb d_P_multiplyStep_21 rfl (lv_at hl 3 rfl) ?_
  refine lv_iconst (v := (1 : Int32)) hx hb d_P_multiplyStep_22 (by decide) ?_
  refine lv_iushr (v := zushr p1 (1 : Int32)) hx hb d_P_multiplyStep_23 rfl ?_
  refine lv_iload hx hb d_P_multiplyStep_24 (lv_at hl 0 rfl) ?_
  refine lv_bipush (v := (31 : Int32)) hx hb d_P_multiplyStep_26 (by decide) ?_
  refine lv_ishl hx hb d_P_multiplyStep_28 ?_
  refine lv_ior hx hb d_P_multiplyStep_29 ?_
  refine lv_aload_n hx hb d_P_multiplyStep_30 rfl (lv_at hl 1 rfl) ?_
  refine va_get (D := D) (ci := 2) (v := .int (st.1 2)) (C := "WindowMachine$Processor") (T := T_P) (N := 18) hx hb ht zi_P hown hK hP 0 rfl rfl 5 (by decide) (ht _ zw_123) (fun _ h9 => h9) rfl d_P_multiplyStep_31 ?_
  refine lv_iconst (v := (1 : Int32)) hx hb d_P_multiplyStep_34 (by decide) ?_
  refine lv_iand hx hb d_P_multiplyStep_35 ?_
  refine zcut (X := Int32) (G := fun v9 H locs ls => v9 = (if ((st.1 2) &&& (1 : Int32)) = (0 : Int32) then (0 : Int32) else p2) ∧ va_P D vwCl (wP h c st) H ∧ va_D A (wP h c st) ∧ va_S A s.heap H locs ∧ lv_has ls 5 [(0, .ref (h 0)), (1, .int p0), (2, .int p1), (3, .int p2), (4, .int x_1)]) (fr := fun v9 ls => F0 m 44 ls [.int v9, .int ((zushr p1 (1 : Int32)) ||| (x_1 <<< ((31 : Int32) &&& 31))), .ref (h 5)]) (fun J_3 => ?_) (fun v9 H locs ls hG => ?_)
  · refine lv_if_ne (tgt := 43) hx hb d_P_multiplyStep_36 (by decide) (fun c_4 => ?_) (fun c_4 => ?_)
    · refine lv_iload_n hx hb d_P_multiplyStep_43 rfl (lv_at hl 4 rfl) ?_
      exact J_3 p2 _ _ _ ⟨by simp only [if_neg c_4], hP, hD, hS, (lv_sub hl [1, 2, 3, 4, 0] rfl)⟩
    refine lv_iconst (v := (0 : Int32)) hx hb d_P_multiplyStep_39 (by decide) ?_
    refine lv_goto (tgt := 44) hx hb d_P_multiplyStep_40 (by decide) ?_
    exact J_3 (0 : Int32) _ _ _ ⟨by simp only [if_pos c_4], hP, hD, hS, (lv_sub hl [1, 2, 3, 4, 0] rfl)⟩
  obtain ⟨x_2, rfl⟩ : ∃ z, z = v9 := ⟨_, rfl⟩
  obtain ⟨ex_2, hP, hD, hS, hl⟩ := hG
  refine lv_iconst (v := (0 : Int32)) hx hb d_P_multiplyStep_44 (by decide) ?_
  refine zc_v (w2 := fun u9 => wP h c (st.1, u9, st.2.2.1, st.2.2.2)) (va_runV (As := [.int ((zushr p1 (1 : Int32)) ||| (x_1 <<< ((31 : Int32) &&& 31))), .int x_2, .int (0 : Int32)]) (rest := []) ⟨hx, hb, hml, hown, ht⟩ (mt_K_add l D (h 5) H.size st.2.1 ((zushr p1 (1 : Int32)) ||| (x_1 <<< ((31 : Int32) &&& 31))) x_2 (0 : Int32)) (cwV 3 ht (zgV zw_636 zw_600 zw_601 zw_6 zw_602) rfl rfl rfl kd_K_add ⟨Nat.le_of_ble_eq_true rfl, Nat.le_of_ble_eq_true rfl⟩) ⟨zw_blind zw_tt, va_recv (hK.sub (tys' := []) [] rfl) (hP.sub (ws' := wK (h 5) st.2.1) [5] rfl) (ci := 3) (q0 := 0) rfl rfl, zw_go (hP.sub (ws' := wK (h 5) st.2.1) [5] rfl) (hD.sub (ws' := wK (h 5) st.2.1) [5] (by decide) rfl) (hK.sub (tys' := []) [] rfl) (fun _ _ _ => trivial)⟩ rfl rfl hl.1 rfl (lv_room (Nat.le_of_ble_eq_true rfl)) d_P_multiplyStep_45 ⟨Nat.le_of_ble_eq_true rfl, Nat.le_of_ble_eq_true rfl⟩) hP hD hS hA [5] [0, 1, 2, 3, 4] [0, 1, 2, 3, 4, 5] rfl rfl (by decide) (by decide) (by decide) (fun _ => rfl) (fun u_5 H locs hw hP hD hS => ?_)
  have eu_5 := hw
  refine lv_aload_n hx hb d_P_multiplyStep_48 rfl (lv_at hl 0 rfl) ?_
  refine lv_aload_n hx hb d_P_multiplyStep_49 rfl (lv_at hl 0 rfl) ?_
  refine va_get (D := D) (ci := 2) (v := .ref (h 5)) (C := "WindowMachine$Processor") (T := T_P) (N := 18) hx hb ht zi_P hown hK hP 0 rfl rfl 2 (by decide) (ht _ zw_119) (fun _ h9 => h9) rfl d_P_multiplyStep_50 ?_
  refine zc_i (w2 := fun _ => wP h c (st.1, u_5, st.2.2.1, st.2.2.2)) (va_runV (As := []) (rest := [.ref (h 0)]) ⟨hx, hb, hml, hown, ht⟩ (mt_K_flags l D (h 5) H.size u_5) (cwV 0 ht (zgV zw_628 zw_629 zw_630 zw_6 zw_631) rfl rfl rfl kd_K_flags ⟨Nat.le_of_ble_eq_true rfl, Nat.le_of_ble_eq_true rfl⟩) ⟨zw_blind zw_tt, va_recv (hK.sub (tys' := []) [] rfl) (hP.sub (ws' := wK (h 5) u_5) [5] rfl) (ci := 3) (q0 := 0) rfl rfl, zw_go (hP.sub (ws' := wK (h 5) u_5) [5] rfl) (hD.sub (ws' := wK (h 5) u_5) [5] (by decide) rfl) (hK.sub (tys' := []) [] rfl) (fun _ _ _ => trivial)⟩ rfl rfl hl.1 rfl (lv_room (Nat.le_of_ble_eq_true rfl)) d_P_multiplyStep_53 ⟨Nat.le_of_ble_eq_true rfl, Nat.le_of_ble_eq_true rfl⟩) hP hD hS hA [5] [0, 1, 2, 3, 4] [0, 1, 2, 3, 4, 5] rfl rfl (by decide) (by decide) (by decide) (fun _ => rfl) (fun r_6 _ H locs hw hP hD hS => ?_)
  subst hw
  refine va_put (D := D) (ci := 2) (v := .int (f_kflags u_5)) (ty := .int) (C := "WindowMachine$Processor") (T := T_P) (N := 18) hx hb ht zi_P ty_P tyok_P nm_P hown hK hP hD hS 0 rfl rfl 4 (by decide) (ht _ zw_122) (fun _ h9 => h9) rfl (by decide +kernel) rfl rfl (Nat.le_of_ble_eq_true rfl) d_P_multiplyStep_56 (fun H locs hP hD hS => ?_)
  have hP : va_P D vwCl (wP h c (upd st.1 1 (f_kflags u_5), u_5, st.2.2.1, st.2.2.2)) H := hP
  have hD : va_D A (wP h c (upd st.1 1 (f_kflags u_5), u_5, st.2.2.1, st.2.2.2)) := hD
  refine lv_aload_n hx hb d_P_multiplyStep_59 rfl (lv_at hl 0 rfl) ?_
  refine lv_aload_n hx hb d_P_multiplyStep_60 rfl (lv_at hl 0 rfl) ?_
  refine va_get (D := D) (ci := 2) (v := .int (st.1 2)) (C := "WindowMachine$Processor") (T := T_P) (N := 18) hx hb ht zi_P hown hK hP 0 rfl rfl 5 (by decide) (ht _ zw_123) (fun _ h9 => h9) rfl d_P_multiplyStep_61 ?_
  refine lv_iconst (v := (1 : Int32)) hx hb d_P_multiplyStep_64 (by decide) ?_
  refine lv_iushr (v := zushr (st.1 2) (1 : Int32)) hx hb d_P_multiplyStep_65 rfl ?_
  refine lv_iload_n hx hb d_P_multiplyStep_66 rfl (lv_at hl 2 rfl) ?_
  refine lv_bipush (v := (31 : Int32)) hx hb d_P_multiplyStep_67 (by decide) ?_
  refine lv_ishl hx hb d_P_multiplyStep_69 ?_
  refine lv_ior hx hb d_P_multiplyStep_70 ?_
  refine va_put (D := D) (ci := 2) (v := .int ((zushr (st.1 2) (1 : Int32)) ||| (p1 <<< ((31 : Int32) &&& 31)))) (ty := .int) (C := "WindowMachine$Processor") (T := T_P) (N := 18) hx hb ht zi_P ty_P tyok_P nm_P hown hK hP hD hS 0 rfl rfl 5 (by decide) (ht _ zw_123) (fun _ h9 => h9) rfl (by decide +kernel) rfl rfl (Nat.le_of_ble_eq_true rfl) d_P_multiplyStep_71 (fun H locs hP hD hS => ?_)
  have hP : va_P D vwCl (wP h c (upd (upd st.1 1 (f_kflags u_5)) 2 ((zushr (st.1 2) (1 : Int32)) ||| (p1 <<< ((31 : Int32) &&& 31))), u_5, st.2.2.1, st.2.2.2)) H := hP
  have hD : va_D A (wP h c (upd (upd st.1 1 (f_kflags u_5)) 2 ((zushr (st.1 2) (1 : Int32)) ||| (p1 <<< ((31 : Int32) &&& 31))), u_5, st.2.2.1, st.2.2.2)) := hD
  refine lv_aload_n hx hb d_P_multiplyStep_74 rfl (lv_at hl 0 rfl) ?_
  refine lv_iload_n hx hb d_P_multiplyStep_75 rfl (lv_at hl 1 rfl) ?_
  refine lv_aload_n hx hb d_P_multiplyStep_76 rfl (lv_at hl 0 rfl) ?_
  refine va_get (D := D) (ci := 2) (v := .ref (h 5)) (C := "WindowMachine$Processor") (T := T_P) (N := 18) hx hb ht zi_P hown hK hP 0 rfl rfl 2 (by decide) (ht _ zw_119) (fun _ h9 => h9) rfl d_P_multiplyStep_77 ?_
  refine va_getN (D := D) (ci := 3) (v := .int (u_5 0)) (C := "WindowMachine$Reckoner") (T := T_K) (N := 4) hx hb ht zi_K hown hK hP 5 rfl rfl 0 (by decide) (va_Nw.use rfl (zz_n86 hZ)) (fun _ h9 => h9) rfl d_P_multiplyStep_80 ?_
  refine zc_i (w2 := fun u9 => wP h c u9) (va_runV (As := [.int p0, .int (u_5 0)]) (rest := []) ⟨hx, hb, hml, hown, ht⟩ (mt_P_deliver l D h c H.size (upd (upd st.1 1 (f_kflags u_5)) 2 ((zushr (st.1 2) (1 : Int32)) ||| (p1 <<< ((31 : Int32) &&& 31))), u_5, st.2.2.1, st.2.2.2) p0 (u_5 0) hW) (cwV 2 ht (zgV zw_546 zw_548 zs_26 zw_4 zw_549) rfl rfl rfl kd_P_deliver ⟨Nat.le_of_ble_eq_true rfl, Nat.le_of_ble_eq_true rfl⟩) ⟨zw_blind zw_tt, va_recv (hK.sub (tys' := [(c 0, .int), (c 1, .int)]) [0, 1] rfl) (hP.sub (ws' := wP h c (upd (upd st.1 1 (f_kflags u_5)) 2 ((zushr (st.1 2) (1 : Int32)) ||| (p1 <<< ((31 : Int32) &&& 31))), u_5, st.2.2.1, st.2.2.2)) [0, 1, 2, 3, 4, 5] rfl) (ci := 2) (q0 := 0) rfl rfl, zw_go (hP.sub (ws' := wP h c (upd (upd st.1 1 (f_kflags u_5)) 2 ((zushr (st.1 2) (1 : Int32)) ||| (p1 <<< ((31 : Int32) &&& 31))), u_5, st.2.2.1, st.2.2.2)) [0, 1, 2, 3, 4, 5] rfl) (hD.sub (ws' := wP h c (upd (upd st.1 1 (f_kflags u_5)) 2 ((zushr (st.1 2) (1 : Int32)) ||| (p1 <<< ((31 : Int32) &&& 31))), u_5, st.2.2.1, st.2.2.2)) [0, 1, 2, 3, 4, 5] (by decide) rfl) (hK.sub (tys' := [(c 0, .int), (c 1, .int)]) [0, 1] rfl) (fun _ _ _ => trivial)⟩ rfl rfl hl.1 rfl (lv_room (Nat.le_of_ble_eq_true rfl)) d_P_multiplyStep_83 ⟨Nat.le_of_ble_eq_true rfl, Nat.le_of_ble_eq_true rfl⟩) hP hD hS hA [0, 1, 2, 3, 4, 5] [] [0, 1, 2, 3, 4, 5] rfl rfl (by decide) (by decide) (by decide) (fun _ => rfl) (fun r_7 u_7 H locs hw hP hD hS => ?_)
  obtain ⟨er_7, eu_7⟩ := hw
  exact zl_i (u := u_7) hx hb hr hlocks hS hP hD (⟨by subst ex_1; subst ex_2; subst eu_5; subst er_7; subst eu_7; simp only [f_multiplyStep], by subst ex_1; subst ex_2; subst eu_5; subst er_7; subst eu_7; simp only [f_multiplyStep]⟩) d_P_multiplyStep_86
theorem d_P_operate_0 : decode c_P_operate 0 = .ok (.iload_n 1, 1) := by decide +kernel
theorem d_P_operate_1 : decode c_P_operate 1 = .ok (.invokestatic 140, 3) := by decide +kernel
theorem d_P_operate_4 : decode c_P_operate 4 = .ok (.istore_n 2, 1) := by decide +kernel
theorem d_P_operate_5 : decode c_P_operate 5 = .ok (.aload_n 0, 1) := by decide +kernel
theorem d_P_operate_6 : decode c_P_operate 6 = .ok (.getfield 18, 3) := by decide +kernel
theorem d_P_operate_9 : decode c_P_operate 9 = .ok (.aload_n 0, 1) := by decide +kernel
theorem d_P_operate_10 : decode c_P_operate 10 = .ok (.getfield 36, 3) := by decide +kernel
theorem d_P_operate_13 : decode c_P_operate 13 = .ok (.iload_n 1, 1) := by decide +kernel
theorem d_P_operate_14 : decode c_P_operate 14 = .ok (.invokestatic 143, 3) := by decide +kernel
theorem d_P_operate_17 : decode c_P_operate 17 = .ok (.invokevirtual 146, 3) := by decide +kernel
theorem d_P_operate_20 : decode c_P_operate 20 = .ok (.istore_n 3, 1) := by decide +kernel
theorem d_P_operate_21 : decode c_P_operate 21 = .ok (.aload_n 0, 1) := by decide +kernel
theorem d_P_operate_22 : decode c_P_operate 22 = .ok (.iload_n 1, 1) := by decide +kernel
theorem d_P_operate_23 : decode c_P_operate 23 = .ok (.invokevirtual 149, 3) := by decide +kernel
theorem d_P_operate_26 : decode c_P_operate 26 = .ok (.istore 4, 2) := by decide +kernel
theorem d_P_operate_28 : decode c_P_operate 28 = .ok (.iload_n 2, 1) := by decide +kernel
theorem d_P_operate_29 : decode c_P_operate 29 = .ok (.bipush 32, 2) := by decide +kernel
theorem d_P_operate_31 : decode c_P_operate 31 = .ok (.if_icmp .ge 13, 3) := by decide +kernel
theorem d_P_operate_34 : decode c_P_operate 34 = .ok (.aload_n 0, 1) := by decide +kernel
theorem d_P_operate_35 : decode c_P_operate 35 = .ok (.iload_n 1, 1) := by decide +kernel
theorem d_P_operate_36 : decode c_P_operate 36 = .ok (.iload_n 2, 1) := by decide +kernel
theorem d_P_operate_37 : decode c_P_operate 37 = .ok (.iload_n 3, 1) := by decide +kernel
theorem d_P_operate_38 : decode c_P_operate 38 = .ok (.iload 4, 2) := by decide +kernel
theorem d_P_operate_40 : decode c_P_operate 40 = .ok (.invokevirtual 154, 3) := by decide +kernel
theorem d_P_operate_43 : decode c_P_operate 43 = .ok (.ireturn, 1) := by decide +kernel
theorem d_P_operate_44 : decode c_P_operate 44 = .ok (.iload_n 2, 1) := by decide +kernel
theorem d_P_operate_45 : decode c_P_operate 45 = .ok (.tableswitch 292 36 61 #[119, 128, 141, 154, 167, 188, 188, 188, 292, 292, 292, 292, 195, 205, 205, 205, 292, 292, 292, 292, 215, 225, 234, 292, 261, 276], 119) := by decide +kernel
theorem d_P_operate_164 : decode c_P_operate 164 = .ok (.aload_n 0, 1) := by decide +kernel
theorem d_P_operate_165 : decode c_P_operate 165 = .ok (.iload_n 1, 1) := by decide +kernel
theorem d_P_operate_166 : decode c_P_operate 166 = .ok (.iload_n 3, 1) := by decide +kernel
theorem d_P_operate_167 : decode c_P_operate 167 = .ok (.iload 4, 2) := by decide +kernel
theorem d_P_operate_169 : decode c_P_operate 169 = .ok (.invokevirtual 158, 3) := by decide +kernel
theorem d_P_operate_172 : decode c_P_operate 172 = .ok (.ireturn, 1) := by decide +kernel
theorem d_P_operate_173 : decode c_P_operate 173 = .ok (.aload_n 0, 1) := by decide +kernel
theorem d_P_operate_174 : decode c_P_operate 174 = .ok (.iload_n 1, 1) := by decide +kernel
theorem d_P_operate_175 : decode c_P_operate 175 = .ok (.iload_n 3, 1) := by decide +kernel
theorem d_P_operate_176 : decode c_P_operate 176 = .ok (.iload 4, 2) := by decide +kernel
theorem d_P_operate_178 : decode c_P_operate 178 = .ok (.bipush 31, 2) := by decide +kernel
theorem d_P_operate_180 : decode c_P_operate 180 = .ok (.iand, 1) := by decide +kernel
theorem d_P_operate_181 : decode c_P_operate 181 = .ok (.ishl, 1) := by decide +kernel
theorem d_P_operate_182 : decode c_P_operate 182 = .ok (.invokevirtual 130, 3) := by decide +kernel
theorem d_P_operate_185 : decode c_P_operate 185 = .ok (.ireturn, 1) := by decide +kernel
theorem d_P_operate_186 : decode c_P_operate 186 = .ok (.aload_n 0, 1) := by decide +kernel
theorem d_P_operate_187 : decode c_P_operate 187 = .ok (.iload_n 1, 1) := by decide +kernel
theorem d_P_operate_188 : decode c_P_operate 188 = .ok (.iload_n 3, 1) := by decide +kernel
theorem d_P_operate_189 : decode c_P_operate 189 = .ok (.iload 4, 2) := by decide +kernel
theorem d_P_operate_191 : decode c_P_operate 191 = .ok (.bipush 31, 2) := by decide +kernel
theorem d_P_operate_193 : decode c_P_operate 193 = .ok (.iand, 1) := by decide +kernel
theorem d_P_operate_194 : decode c_P_operate 194 = .ok (.iushr, 1) := by decide +kernel
theorem d_P_operate_195 : decode c_P_operate 195 = .ok (.invokevirtual 130, 3) := by decide +kernel
theorem d_P_operate_198 : decode c_P_operate 198 = .ok (.ireturn, 1) := by decide +kernel
theorem d_P_operate_199 : decode c_P_operate 199 = .ok (.aload_n 0, 1) := by decide +kernel
theorem d_P_operate_200 : decode c_P_operate 200 = .ok (.iload_n 1, 1) := by decide +kernel
theorem d_P_operate_201 : decode c_P_operate 201 = .ok (.iload_n 3, 1) := by decide +kernel
theorem d_P_operate_202 : decode c_P_operate 202 = .ok (.iload 4, 2) := by decide +kernel
theorem d_P_operate_204 : decode c_P_operate 204 = .ok (.bipush 31, 2) := by decide +kernel
theorem d_P_operate_206 : decode c_P_operate 206 = .ok (.iand, 1) := by decide +kernel
theorem d_P_operate_207 : decode c_P_operate 207 = .ok (.ishr, 1) := by decide +kernel
theorem d_P_operate_208 : decode c_P_operate 208 = .ok (.invokevirtual 130, 3) := by decide +kernel
theorem d_P_operate_211 : decode c_P_operate 211 = .ok (.ireturn, 1) := by decide +kernel
theorem d_P_operate_212 : decode c_P_operate 212 = .ok (.iload_n 1, 1) := by decide +kernel
theorem d_P_operate_213 : decode c_P_operate 213 = .ok (.invokestatic 143, 3) := by decide +kernel
theorem d_P_operate_216 : decode c_P_operate 216 = .ok (.ifCond .ne 15, 3) := by decide +kernel
theorem d_P_operate_219 : decode c_P_operate 219 = .ok (.aload_n 0, 1) := by decide +kernel
theorem d_P_operate_220 : decode c_P_operate 220 = .ok (.iload_n 1, 1) := by decide +kernel
theorem d_P_operate_221 : decode c_P_operate 221 = .ok (.aload_n 0, 1) := by decide +kernel
theorem d_P_operate_222 : decode c_P_operate 222 = .ok (.getfield 66, 3) := by decide +kernel
theorem d_P_operate_225 : decode c_P_operate 225 = .ok (.invokevirtual 130, 3) := by decide +kernel
theorem d_P_operate_228 : decode c_P_operate 228 = .ok (.goto 4, 3) := by decide +kernel
theorem d_P_operate_231 : decode c_P_operate 231 = .ok (.iconst 2, 1) := by decide +kernel
theorem d_P_operate_232 : decode c_P_operate 232 = .ok (.ireturn, 1) := by decide +kernel
theorem d_P_operate_233 : decode c_P_operate 233 = .ok (.aload_n 0, 1) := by decide +kernel
theorem d_P_operate_234 : decode c_P_operate 234 = .ok (.iload_n 1, 1) := by decide +kernel
theorem d_P_operate_235 : decode c_P_operate 235 = .ok (.iload_n 2, 1) := by decide +kernel
theorem d_P_operate_236 : decode c_P_operate 236 = .ok (.invokevirtual 162, 3) := by decide +kernel
theorem d_P_operate_239 : decode c_P_operate 239 = .ok (.ireturn, 1) := by decide +kernel
theorem d_P_operate_240 : decode c_P_operate 240 = .ok (.aload_n 0, 1) := by decide +kernel
theorem d_P_operate_241 : decode c_P_operate 241 = .ok (.iload_n 1, 1) := by decide +kernel
theorem d_P_operate_242 : decode c_P_operate 242 = .ok (.iload_n 3, 1) := by decide +kernel
theorem d_P_operate_243 : decode c_P_operate 243 = .ok (.iload 4, 2) := by decide +kernel
theorem d_P_operate_245 : decode c_P_operate 245 = .ok (.ixor, 1) := by decide +kernel
theorem d_P_operate_246 : decode c_P_operate 246 = .ok (.invokevirtual 165, 3) := by decide +kernel
theorem d_P_operate_249 : decode c_P_operate 249 = .ok (.ireturn, 1) := by decide +kernel
theorem d_P_operate_250 : decode c_P_operate 250 = .ok (.aload_n 0, 1) := by decide +kernel
theorem d_P_operate_251 : decode c_P_operate 251 = .ok (.iload_n 2, 1) := by decide +kernel
theorem d_P_operate_252 : decode c_P_operate 252 = .ok (.iload_n 3, 1) := by decide +kernel
theorem d_P_operate_253 : decode c_P_operate 253 = .ok (.iload 4, 2) := by decide +kernel
theorem d_P_operate_255 : decode c_P_operate 255 = .ok (.ixor, 1) := by decide +kernel
theorem d_P_operate_256 : decode c_P_operate 256 = .ok (.invokevirtual 168, 3) := by decide +kernel
theorem d_P_operate_259 : decode c_P_operate 259 = .ok (.ireturn, 1) := by decide +kernel
theorem d_P_operate_260 : decode c_P_operate 260 = .ok (.aload_n 0, 1) := by decide +kernel
theorem d_P_operate_261 : decode c_P_operate 261 = .ok (.iload_n 1, 1) := by decide +kernel
theorem d_P_operate_262 : decode c_P_operate 262 = .ok (.iload_n 3, 1) := by decide +kernel
theorem d_P_operate_263 : decode c_P_operate 263 = .ok (.iload 4, 2) := by decide +kernel
theorem d_P_operate_265 : decode c_P_operate 265 = .ok (.iadd, 1) := by decide +kernel
theorem d_P_operate_266 : decode c_P_operate 266 = .ok (.invokevirtual 171, 3) := by decide +kernel
theorem d_P_operate_269 : decode c_P_operate 269 = .ok (.ireturn, 1) := by decide +kernel
theorem d_P_operate_270 : decode c_P_operate 270 = .ok (.aload_n 0, 1) := by decide +kernel
theorem d_P_operate_271 : decode c_P_operate 271 = .ok (.iload_n 3, 1) := by decide +kernel
theorem d_P_operate_272 : decode c_P_operate 272 = .ok (.iload 4, 2) := by decide +kernel
theorem d_P_operate_274 : decode c_P_operate 274 = .ok (.iadd, 1) := by decide +kernel
theorem d_P_operate_275 : decode c_P_operate 275 = .ok (.invokevirtual 174, 3) := by decide +kernel
theorem d_P_operate_278 : decode c_P_operate 278 = .ok (.ireturn, 1) := by decide +kernel
theorem d_P_operate_279 : decode c_P_operate 279 = .ok (.aload_n 0, 1) := by decide +kernel
theorem d_P_operate_280 : decode c_P_operate 280 = .ok (.iload_n 1, 1) := by decide +kernel
theorem d_P_operate_281 : decode c_P_operate 281 = .ok (.invokestatic 133, 3) := by decide +kernel
theorem d_P_operate_284 : decode c_P_operate 284 = .ok (.invokevirtual 136, 3) := by decide +kernel
theorem d_P_operate_287 : decode c_P_operate 287 = .ok (.ifCond .eq 17, 3) := by decide +kernel
theorem d_P_operate_290 : decode c_P_operate 290 = .ok (.sipush 128, 3) := by decide +kernel
theorem d_P_operate_293 : decode c_P_operate 293 = .ok (.iload_n 3, 1) := by decide +kernel
theorem d_P_operate_294 : decode c_P_operate 294 = .ok (.iload 4, 2) := by decide +kernel
theorem d_P_operate_296 : decode c_P_operate 296 = .ok (.iadd, 1) := by decide +kernel
theorem d_P_operate_297 : decode c_P_operate 297 = .ok (.bipush 127, 2) := by decide +kernel
theorem d_P_operate_299 : decode c_P_operate 299 = .ok (.iand, 1) := by decide +kernel
theorem d_P_operate_300 : decode c_P_operate 300 = .ok (.iadd, 1) := by decide +kernel
theorem d_P_operate_301 : decode c_P_operate 301 = .ok (.goto 4, 3) := by decide +kernel
theorem d_P_operate_304 : decode c_P_operate 304 = .ok (.iconst (-1), 1) := by decide +kernel
theorem d_P_operate_305 : decode c_P_operate 305 = .ok (.ireturn, 1) := by decide +kernel
theorem d_P_operate_306 : decode c_P_operate 306 = .ok (.aload_n 0, 1) := by decide +kernel
theorem d_P_operate_307 : decode c_P_operate 307 = .ok (.iload_n 1, 1) := by decide +kernel
theorem d_P_operate_308 : decode c_P_operate 308 = .ok (.aload_n 0, 1) := by decide +kernel
theorem d_P_operate_309 : decode c_P_operate 309 = .ok (.invokevirtual 98, 3) := by decide +kernel
theorem d_P_operate_312 : decode c_P_operate 312 = .ok (.iconst 5, 1) := by decide +kernel
theorem d_P_operate_313 : decode c_P_operate 313 = .ok (.iload_n 3, 1) := by decide +kernel
theorem d_P_operate_314 : decode c_P_operate 314 = .ok (.iload 4, 2) := by decide +kernel
theorem d_P_operate_316 : decode c_P_operate 316 = .ok (.iadd, 1) := by decide +kernel
theorem d_P_operate_317 : decode c_P_operate 317 = .ok (.invokevirtual 177, 3) := by decide +kernel
theorem d_P_operate_320 : decode c_P_operate 320 = .ok (.ireturn, 1) := by decide +kernel
theorem d_P_operate_321 : decode c_P_operate 321 = .ok (.aload_n 0, 1) := by decide +kernel
theorem d_P_operate_322 : decode c_P_operate 322 = .ok (.iload_n 1, 1) := by decide +kernel
theorem d_P_operate_323 : decode c_P_operate 323 = .ok (.aload_n 0, 1) := by decide +kernel
theorem d_P_operate_324 : decode c_P_operate 324 = .ok (.invokevirtual 180, 3) := by decide +kernel
theorem d_P_operate_327 : decode c_P_operate 327 = .ok (.bipush 6, 2) := by decide +kernel
theorem d_P_operate_329 : decode c_P_operate 329 = .ok (.iload_n 3, 1) := by decide +kernel
theorem d_P_operate_330 : decode c_P_operate 330 = .ok (.iload 4, 2) := by decide +kernel
theorem d_P_operate_332 : decode c_P_operate 332 = .ok (.iadd, 1) := by decide +kernel
theorem d_P_operate_333 : decode c_P_operate 333 = .ok (.invokevirtual 177, 3) := by decide +kernel
theorem d_P_operate_336 : decode c_P_operate 336 = .ok (.ireturn, 1) := by decide +kernel
theorem d_P_operate_337 : decode c_P_operate 337 = .ok (.iconst 2, 1) := by decide +kernel
theorem d_P_operate_338 : decode c_P_operate 338 = .ok (.ireturn, 1) := by decide +kernel
theorem kd_P_operate : (y_P_operate).cls = "WindowMachine$Processor" ∧ (y_P_operate).cls ≠ "java/lang/invoke/MethodHandle" ∧ (y_P_operate).cls ≠ "java/lang/invoke/VarHandle" ∧ (parseMethodDescriptor (y_P_operate).desc).map (fun d => d.parameters.length) = some 1 := by decide +kernel
def f_operate (st : SP) (p0 : Int32) : Int32 × SP := (let r_3 := f_rread st.2.2.1 (st.1 0) (f_rs1Of p0); (if (32 : Int32) ≤ (f_op3Of p0) then (if (f_op3Of p0) = (36 : Int32) then (let r_8 := (f_multiplyStep st p0 r_3 (f_secondOperand st p0)).1; (let u_8 := (f_multiplyStep st p0 r_3 (f_secondOperand st p0)).2; (r_8, u_8))) else (if (f_op3Of p0) = (37 : Int32) then (let r_10 := (f_deliver st p0 (r_3 <<< (((f_secondOperand st p0) &&& (31 : Int32)) &&& 31))).1; (let u_10 := (f_deliver st p0 (r_3 <<< (((f_secondOperand st p0) &&& (31 : Int32)) &&& 31))).2; (r_10, u_10))) else (if (f_op3Of p0) = (38 : Int32) then (let r_12 := (f_deliver st p0 (zushr r_3 ((f_secondOperand st p0) &&& (31 : Int32)))).1; (let u_12 := (f_deliver st p0 (zushr r_3 ((f_secondOperand st p0) &&& (31 : Int32)))).2; (r_12, u_12))) else (if (f_op3Of p0) = (39 : Int32) then (let r_14 := (f_deliver st p0 (r_3 >>> (((f_secondOperand st p0) &&& (31 : Int32)) &&& 31))).1; (let u_14 := (f_deliver st p0 (r_3 >>> (((f_secondOperand st p0) &&& (31 : Int32)) &&& 31))).2; (r_14, u_14))) else (if (f_op3Of p0) = (40 : Int32) then (let x_17 := (if (f_rs1Of p0) = (0 : Int32) then (f_deliver st p0 (st.1 2)).1 else (2 : Int32)); (let u_18 := (if (f_rs1Of p0) = (0 : Int32) then (f_deliver st p0 (st.1 2)).2 else st); (x_17, u_18))) else (if (f_op3Of p0) = (41 : Int32) then (let r_23 := (f_readSpecial st p0 (f_op3Of p0)).1; (let u_23 := (f_readSpecial st p0 (f_op3Of p0)).2; (r_23, u_23))) else (if (f_op3Of p0) = (42 : Int32) then (let r_25 := (f_readSpecial st p0 (f_op3Of p0)).1; (let u_25 := (f_readSpecial st p0 (f_op3Of p0)).2; (r_25, u_25))) else (if (f_op3Of p0) = (43 : Int32) then (let r_27 := (f_readSpecial st p0 (f_op3Of p0)).1; (let u_27 := (f_readSpecial st p0 (f_op3Of p0)).2; (r_27, u_27))) else (if (f_op3Of p0) = (48 : Int32) then (let r_29 := (f_writeY st p0 (r_3 ^^^ (f_secondOperand st p0))).1; (let u_29 := (f_writeY st p0 (r_3 ^^^ (f_secondOperand st p0))).2; (r_29, u_29))) else (if (f_op3Of p0) = (49 : Int32) then (let r_31 := (f_writeSpecial st (f_op3Of p0) (r_3 ^^^ (f_secondOperand st p0))).1; (let u_31 := (f_writeSpecial st (f_op3Of p0) (r_3 ^^^ (f_secondOperand st p0))).2; (r_31, u_31))) else (if (f_op3Of p0) = (50 : Int32) then (let r_33 := (f_writeSpecial st (f_op3Of p0) (r_3 ^^^ (f_secondOperand st p0))).1; (let u_33 := (f_writeSpecial st (f_op3Of p0) (r_3 ^^^ (f_secondOperand st p0))).2; (r_33, u_33))) else (if (f_op3Of p0) = (51 : Int32) then (let r_35 := (f_writeSpecial st (f_op3Of p0) (r_3 ^^^ (f_secondOperand st p0))).1; (let u_35 := (f_writeSpecial st (f_op3Of p0) (r_3 ^^^ (f_secondOperand st p0))).2; (r_35, u_35))) else (if (f_op3Of p0) = (56 : Int32) then (let r_37 := (f_jump st p0 (r_3 + (f_secondOperand st p0))).1; (let u_37 := (f_jump st p0 (r_3 + (f_secondOperand st p0))).2; (r_37, u_37))) else (if (f_op3Of p0) = (57 : Int32) then (let r_39 := (f_returnFromTrap st (r_3 + (f_secondOperand st p0))).1; (let u_39 := (f_returnFromTrap st (r_3 + (f_secondOperand st p0))).2; (r_39, u_39))) else (if (f_op3Of p0) = (58 : Int32) then (let r_42 := f_isMet st (f_conditionOf p0); (let x_43 := (if r_42 = (0 : Int32) then (-1 : Int32) else (128 : Int32) + ((r_3 + (f_secondOperand st p0)) &&& (127 : Int32))); (x_43, st))) else (if (f_op3Of p0) = (60 : Int32) then (let r_48 := (f_moveWindow st p0 (f_windowBelow st) (5 : Int32) (r_3 + (f_secondOperand st p0))).1; (let u_48 := (f_moveWindow st p0 (f_windowBelow st) (5 : Int32) (r_3 + (f_secondOperand st p0))).2; (r_48, u_48))) else (if (f_op3Of p0) = (61 : Int32) then (let r_51 := (f_moveWindow st p0 (f_windowAbove st) (6 : Int32) (r_3 + (f_secondOperand st p0))).1; (let u_51 := (f_moveWindow st p0 (f_windowAbove st) (6 : Int32) (r_3 + (f_secondOperand st p0))).2; (r_51, u_51))) else ((2 : Int32), st)))))))))))))))))) else (let r_61 := (f_reckonInto st p0 (f_op3Of p0) r_3 (f_secondOperand st p0)).1; (let u_61 := (f_reckonInto st p0 (f_op3Of p0) r_3 (f_secondOperand st p0)).2; (r_61, u_61)))))
set_option maxHeartbeats 4000000 in
set_option maxRecDepth 100000 in
theorem mt_P_operate (l : Launch) (D : va_G) (za zk zv : Nat → Nat) (h : Nat → Nat) (c : Nat → ClassId) (sz : Nat) (st : SP) (p0 : Int32) (hW : vp_in (st.1 0) 4) : Met l y_P_operate w_P_operate ({ frames := 4, cells := 0, slots := 0, locals := 99 }) (va_Pc [.ref (h 0), .int p0] (zw_pre D vwCl [(c 0, .int), (c 1, .int)] sz (wP h c st) (zz za zk zv (va_A (wP h c st) sz)))) (va_Qi (fun r (u : SP) => r = (f_operate st p0).1 ∧ u = (f_operate st p0).2) (fun u t => zw_at D vwCl (va_A (wP h c st) sz) ((fun (u : SP) => wP h c u) u) t) (va_A (wP h c st) sz)) 0 0 (va_A (wP h c st) sz) := by
  refine zm (Qf := fun A => va_Qi (fun r (u : SP) => r = (f_operate st p0).1 ∧ u = (f_operate st p0).2) (fun u t => zw_at D vwCl A ((fun (u : SP) => wP h c u) u) t) A) (Zf := fun A => zz za zk zv A) (cc := c_P_operate) (nL := 5) (ret := (some .int)) (by decide) rfl (Nat.le_of_ble_eq_true rfl) ?_
  intro p e s m below meth c9 A H locs ls hx hb hml hown hts hr hlocks hA hK hP hD hS hZ hl
  have hl : lv_has ls 5 [(0, .ref (h 0)), (1, .int p0)] := hl
  have ht : ∀ w9 ∈ zT, w9.before _ s = true := fun w9 h9 => hts w9 (List.mem_cons_of_mem _ h9)
  refine lv_iload_n hx hb d_P_operate_0 rfl (lv_at hl 1 rfl) ?_
  refine zc_i (w2 := fun _ => wP h c st) (va_runS (As := [.int p0]) (rest := []) ⟨hx, hb, hml, hown, ht⟩ (mt_P_op3Of l D H.size p0) (cwS 1 ht (zgS zw_568 zw_569 zw_4 zw_570) rfl rfl rfl kd_P_op3Of ⟨Nat.le_of_ble_eq_true rfl, Nat.le_of_ble_eq_true rfl⟩) ⟨zw_blind zw_tt, zw_go (hP.sub (ws' := []) [] rfl) (hD.sub (ws' := []) [] (by decide) rfl) (hK.sub (tys' := []) [] rfl) (fun _ _ _ => trivial)⟩ rfl rfl hl.1 rfl (lv_room (Nat.le_of_ble_eq_true rfl)) d_P_operate_1 ⟨Nat.le_of_ble_eq_true rfl, Nat.le_of_ble_eq_true rfl⟩) hP hD hS hA [] [0, 1, 2, 3, 4, 5] [0, 1, 2, 3, 4, 5] rfl rfl (by decide) (by decide) (by decide) (fun _ => rfl) (fun r_1 _ H locs hw hP hD hS => ?_)
  subst hw
  refine lv_istore_n (lv' := [(2, .int (f_op3Of p0)), (0, .ref (h 0)), (1, .int p0)]) hx hb d_P_operate_4 rfl hl (by decide) rfl (fun ls hl => ?_)
  refine lv_aload_n hx hb d_P_operate_5 rfl (lv_at hl 1 rfl) ?_
  refine va_get (D := D) (ci := 2) (v := .ref (h 3)) (C := "WindowMachine$Processor") (T := T_P) (N := 18) hx hb ht zi_P hown hK hP 0 rfl rfl 1 (by decide) (ht _ zw_117) (fun _ h9 => h9) rfl d_P_operate_6 ?_
  refine lv_aload_n hx hb d_P_operate_9 rfl (lv_at hl 1 rfl) ?_
  refine va_get (D := D) (ci := 2) (v := .int (st.1 0)) (C := "WindowMachine$Processor") (T := T_P) (N := 18) hx hb ht zi_P hown hK hP 0 rfl rfl 3 (by decide) (ht _ zw_120) (fun _ h9 => h9) rfl d_P_operate_10 ?_
  refine lv_iload_n hx hb d_P_operate_13 rfl (lv_at hl 2 rfl) ?_
  refine zc_i (w2 := fun _ => wP h c st) (va_runS (As := [.int p0]) (rest := [.int (st.1 0), .ref (h 3)]) ⟨hx, hb, hml, hown, ht⟩ (mt_P_rs1Of l D H.size p0) (cwS 1 ht (zgS zw_571 zw_572 zw_4 zw_573) rfl rfl rfl kd_P_rs1Of ⟨Nat.le_of_ble_eq_true rfl, Nat.le_of_ble_eq_true rfl⟩) ⟨zw_blind zw_tt, zw_go (hP.sub (ws' := []) [] rfl) (hD.sub (ws' := []) [] (by decide) rfl) (hK.sub (tys' := []) [] rfl) (fun _ _ _ => trivial)⟩ rfl rfl hl.1 rfl (lv_room (Nat.le_of_ble_eq_true rfl)) d_P_operate_14 ⟨Nat.le_of_ble_eq_true rfl, Nat.le_of_ble_eq_true rfl⟩) hP hD hS hA [] [0, 1, 2, 3, 4, 5] [0, 1, 2, 3, 4, 5] rfl rfl (by decide) (by decide) (by decide) (fun _ => rfl) (fun r_2 _ H locs hw hP hD hS => ?_)
  subst hw
  refine zc_i (w2 := fun _ => wP h c st) (va_runV (As := [.int (st.1 0), .int (f_rs1Of p0)]) (rest := []) ⟨hx, hb, hml, hown, ht⟩ (mt_R_read l D (h 3) (h 4) (c 1) H.size st.2.2.1 (st.1 0) (f_rs1Of p0) hW (rs1_in p0)) (cwV 2 ht (zgV zw_574 zw_575 zw_576 zw_5 zw_577) rfl rfl rfl kd_R_read ⟨Nat.le_of_ble_eq_true rfl, Nat.le_of_ble_eq_true rfl⟩) ⟨zw_blind zw_tt, va_recv (hK.sub (tys' := [((c 1), .int)]) [1] rfl) (hP.sub (ws' := wR (h 3) (h 4) (c 1) st.2.2.1) [3, 4] rfl) (ci := 4) (q0 := 0) rfl rfl, zw_go (hP.sub (ws' := wR (h 3) (h 4) (c 1) st.2.2.1) [3, 4] rfl) (hD.sub (ws' := wR (h 3) (h 4) (c 1) st.2.2.1) [3, 4] (by decide) rfl) (hK.sub (tys' := [((c 1), .int)]) [1] rfl) (fun _ _ _ => trivial)⟩ rfl rfl hl.1 rfl (lv_room (Nat.le_of_ble_eq_true rfl)) d_P_operate_17 ⟨Nat.le_of_ble_eq_true rfl, Nat.le_of_ble_eq_true rfl⟩) hP hD hS hA [3, 4] [0, 1, 2, 5] [0, 1, 2, 4, 5, 3] rfl rfl (by decide) (by decide) (by decide) (fun _ => rfl) (fun r_3 _ H locs hw hP hD hS => ?_)
  have er_3 := hw
  refine lv_istore_n (lv' := [(3, .int r_3), (2, .int (f_op3Of p0)), (0, .ref (h 0)), (1, .int p0)]) hx hb d_P_operate_20 rfl hl (by decide) rfl (fun ls hl => ?_)
  refine lv_aload_n hx hb d_P_operate_21 rfl (lv_at hl 2 rfl) ?_
  refine lv_iload_n hx hb d_P_operate_22 rfl (lv_at hl 3 rfl) ?_
  refine zc_i (w2 := fun _ => wP h c st) (va_runV (As := [.int p0]) (rest := []) ⟨hx, hb, hml, hown, ht⟩ (mt_P_secondOperand l D h c H.size st p0 hW) (cwV 1 ht (zgV zw_578 zw_580 zs_29 zw_4 zw_581) rfl rfl rfl kd_P_secondOperand ⟨Nat.le_of_ble_eq_true rfl, Nat.le_of_ble_eq_true rfl⟩) ⟨zw_blind zw_tt, va_recv (hK.sub (tys' := [(c 0, .int), (c 1, .int)]) [0, 1] rfl) (hP.sub (ws' := wP h c st) [0, 1, 2, 3, 4, 5] rfl) (ci := 2) (q0 := 0) rfl rfl, zw_go (hP.sub (ws' := wP h c st) [0, 1, 2, 3, 4, 5] rfl) (hD.sub (ws' := wP h c st) [0, 1, 2, 3, 4, 5] (by decide) rfl) (hK.sub (tys' := [(c 0, .int), (c 1, .int)]) [0, 1] rfl) (fun _ _ _ => trivial)⟩ rfl rfl hl.1 rfl (lv_room (Nat.le_of_ble_eq_true rfl)) d_P_operate_23 ⟨Nat.le_of_ble_eq_true rfl, Nat.le_of_ble_eq_true rfl⟩) hP hD hS hA [0, 1, 2, 3, 4, 5] [] [0, 1, 2, 3, 4, 5] rfl rfl (by decide) (by decide) (by decide) (fun _ => rfl) (fun r_4 _ H locs hw hP hD hS => ?_)
  subst hw
  refine lv_istore (lv' := [(4, .int (f_secondOperand st p0)), (3, .int r_3), (2, .int (f_op3Of p0)), (0, .ref (h 0)), (1, .int p0)]) hx hb d_P_operate_26 hl (by decide) rfl (fun ls hl => ?_)
  refine lv_iload_n hx hb d_P_operate_28 rfl (lv_at hl 2 rfl) ?_
  refine lv_bipush (v := (32 : Int32)) hx hb d_P_operate_29 (by decide) ?_
  refine lv_icmp_ge (tgt := 44) hx hb d_P_operate_31 (by decide) (fun c_5 => ?_) (fun c_5 => ?_)
  · refine lv_iload_n hx hb d_P_operate_44 rfl (lv_at hl 2 rfl) ?_
    by_cases c_7 : (f_op3Of p0) = (36 : Int32)
    · refine lv_tableIn (tgt := 164) hx hb d_P_operate_45 (by rw [c_7]; decide) (by rw [c_7]; decide) (by rw [c_7]; rfl) (by decide) ?_
      refine lv_aload_n hx hb d_P_operate_164 rfl (lv_at hl 3 rfl) ?_
      refine lv_iload_n hx hb d_P_operate_165 rfl (lv_at hl 4 rfl) ?_
      refine lv_iload_n hx hb d_P_operate_166 rfl (lv_at hl 1 rfl) ?_
      refine lv_iload hx hb d_P_operate_167 (lv_at hl 0 rfl) ?_
      refine zc_i (w2 := fun u9 => wP h c u9) (va_runV (As := [.int p0, .int r_3, .int (f_secondOperand st p0)]) (rest := []) ⟨hx, hb, hml, hown, ht⟩ (mt_P_multiplyStep l D za zk zv h c H.size st p0 r_3 (f_secondOperand st p0) hW) (cwV 3 ht (zgV zw_632 zw_634 zs_35 zw_4 zw_635) rfl rfl rfl kd_P_multiplyStep ⟨Nat.le_of_ble_eq_true rfl, Nat.le_of_ble_eq_true rfl⟩) ⟨zw_blind zz_bl, va_recv (hK.sub (tys' := [(c 0, .int), (c 1, .int)]) [0, 1] rfl) (hP.sub (ws' := wP h c st) [0, 1, 2, 3, 4, 5] rfl) (ci := 2) (q0 := 0) rfl rfl, zw_go (hP.sub (ws' := wP h c st) [0, 1, 2, 3, 4, 5] rfl) (hD.sub (ws' := wP h c st) [0, 1, 2, 3, 4, 5] (by decide) rfl) (hK.sub (tys' := [(c 0, .int), (c 1, .int)]) [0, 1] rfl) (fun U hU hW => zz_go hZ hS (va_free (wc := wP h c st) hD hS hA [0, 1, 2, 3, 4, 5] rfl) hU hW)⟩ rfl rfl hl.1 rfl (lv_room (Nat.le_of_ble_eq_true rfl)) d_P_operate_169 ⟨Nat.le_of_ble_eq_true rfl, Nat.le_of_ble_eq_true rfl⟩) hP hD hS hA [0, 1, 2, 3, 4, 5] [] [0, 1, 2, 3, 4, 5] rfl rfl (by decide) (by decide) (by decide) (fun _ => rfl) (fun r_8 u_8 H locs hw hP hD hS => ?_)
      obtain ⟨er_8, eu_8⟩ := hw
      exact zl_i (u := u_8) hx hb hr hlocks hS hP hD (⟨by subst er_3; subst er_8; subst eu_8; simp only [f_operate, if_pos c_5, if_pos c_7], by subst er_3; subst er_8; subst eu_8; simp only [f_operate, if_pos c_5, if_pos c_7]⟩) d_P_operate_172
    by_cases c_9 : (f_op3Of p0) = (37 : Int32)
    · refine lv_tableIn (tgt := 173) hx hb d_P_operate_45 (by rw [c_9]; decide) (by rw [c_9]; decide) (by rw [c_9]; rfl) (by decide) ?_
      refine lv_aload_n hx hb d_P_operate_173 rfl (lv_at hl 3 rfl) ?_
      refine lv_iload_n hx hb d_P_operate_174 rfl (lv_at hl 4 rfl) ?_
      refine lv_iload_n hx hb d_P_operate_175 rfl (lv_at hl 1 rfl) ?_
      refine lv_iload hx hb d_P_operate_176 (lv_at hl 0 rfl) ?_
      refine lv_bipush (v := (31 : Int32)) hx hb d_P_operate_178 (by decide) ?_
      refine lv_iand hx hb d_P_operate_180 ?_
      refine lv_ishl hx hb d_P_operate_181 ?_
      refine zc_i (w2 := fun u9 => wP h c u9) (va_runV (As := [.int p0, .int (r_3 <<< (((f_secondOperand st p0) &&& (31 : Int32)) &&& 31))]) (rest := []) ⟨hx, hb, hml, hown, ht⟩ (mt_P_deliver l D h c H.size st p0 (r_3 <<< (((f_secondOperand st p0) &&& (31 : Int32)) &&& 31)) hW) (cwV 2 ht (zgV zw_546 zw_548 zs_26 zw_4 zw_549) rfl rfl rfl kd_P_deliver ⟨Nat.le_of_ble_eq_true rfl, Nat.le_of_ble_eq_true rfl⟩) ⟨zw_blind zw_tt, va_recv (hK.sub (tys' := [(c 0, .int), (c 1, .int)]) [0, 1] rfl) (hP.sub (ws' := wP h c st) [0, 1, 2, 3, 4, 5] rfl) (ci := 2) (q0 := 0) rfl rfl, zw_go (hP.sub (ws' := wP h c st) [0, 1, 2, 3, 4, 5] rfl) (hD.sub (ws' := wP h c st) [0, 1, 2, 3, 4, 5] (by decide) rfl) (hK.sub (tys' := [(c 0, .int), (c 1, .int)]) [0, 1] rfl) (fun _ _ _ => trivial)⟩ rfl rfl hl.1 rfl (lv_room (Nat.le_of_ble_eq_true rfl)) d_P_operate_182 ⟨Nat.le_of_ble_eq_true rfl, Nat.le_of_ble_eq_true rfl⟩) hP hD hS hA [0, 1, 2, 3, 4, 5] [] [0, 1, 2, 3, 4, 5] rfl rfl (by decide) (by decide) (by decide) (fun _ => rfl) (fun r_10 u_10 H locs hw hP hD hS => ?_)
      obtain ⟨er_10, eu_10⟩ := hw
      exact zl_i (u := u_10) hx hb hr hlocks hS hP hD (⟨by subst er_3; subst er_10; subst eu_10; simp only [f_operate, if_pos c_5, if_neg c_7, if_pos c_9], by subst er_3; subst er_10; subst eu_10; simp only [f_operate, if_pos c_5, if_neg c_7, if_pos c_9]⟩) d_P_operate_185
    by_cases c_11 : (f_op3Of p0) = (38 : Int32)
    · refine lv_tableIn (tgt := 186) hx hb d_P_operate_45 (by rw [c_11]; decide) (by rw [c_11]; decide) (by rw [c_11]; rfl) (by decide) ?_
      refine lv_aload_n hx hb d_P_operate_186 rfl (lv_at hl 3 rfl) ?_
      refine lv_iload_n hx hb d_P_operate_187 rfl (lv_at hl 4 rfl) ?_
      refine lv_iload_n hx hb d_P_operate_188 rfl (lv_at hl 1 rfl) ?_
      refine lv_iload hx hb d_P_operate_189 (lv_at hl 0 rfl) ?_
      refine lv_bipush (v := (31 : Int32)) hx hb d_P_operate_191 (by decide) ?_
      refine lv_iand hx hb d_P_operate_193 ?_
      refine lv_iushr (v := zushr r_3 ((f_secondOperand st p0) &&& (31 : Int32))) hx hb d_P_operate_194 rfl ?_
      refine zc_i (w2 := fun u9 => wP h c u9) (va_runV (As := [.int p0, .int (zushr r_3 ((f_secondOperand st p0) &&& (31 : Int32)))]) (rest := []) ⟨hx, hb, hml, hown, ht⟩ (mt_P_deliver l D h c H.size st p0 (zushr r_3 ((f_secondOperand st p0) &&& (31 : Int32))) hW) (cwV 2 ht (zgV zw_546 zw_548 zs_26 zw_4 zw_549) rfl rfl rfl kd_P_deliver ⟨Nat.le_of_ble_eq_true rfl, Nat.le_of_ble_eq_true rfl⟩) ⟨zw_blind zw_tt, va_recv (hK.sub (tys' := [(c 0, .int), (c 1, .int)]) [0, 1] rfl) (hP.sub (ws' := wP h c st) [0, 1, 2, 3, 4, 5] rfl) (ci := 2) (q0 := 0) rfl rfl, zw_go (hP.sub (ws' := wP h c st) [0, 1, 2, 3, 4, 5] rfl) (hD.sub (ws' := wP h c st) [0, 1, 2, 3, 4, 5] (by decide) rfl) (hK.sub (tys' := [(c 0, .int), (c 1, .int)]) [0, 1] rfl) (fun _ _ _ => trivial)⟩ rfl rfl hl.1 rfl (lv_room (Nat.le_of_ble_eq_true rfl)) d_P_operate_195 ⟨Nat.le_of_ble_eq_true rfl, Nat.le_of_ble_eq_true rfl⟩) hP hD hS hA [0, 1, 2, 3, 4, 5] [] [0, 1, 2, 3, 4, 5] rfl rfl (by decide) (by decide) (by decide) (fun _ => rfl) (fun r_12 u_12 H locs hw hP hD hS => ?_)
      obtain ⟨er_12, eu_12⟩ := hw
      exact zl_i (u := u_12) hx hb hr hlocks hS hP hD (⟨by subst er_3; subst er_12; subst eu_12; simp only [f_operate, if_pos c_5, if_neg c_7, if_neg c_9, if_pos c_11], by subst er_3; subst er_12; subst eu_12; simp only [f_operate, if_pos c_5, if_neg c_7, if_neg c_9, if_pos c_11]⟩) d_P_operate_198
    by_cases c_13 : (f_op3Of p0) = (39 : Int32)
    · refine lv_tableIn (tgt := 199) hx hb d_P_operate_45 (by rw [c_13]; decide) (by rw [c_13]; decide) (by rw [c_13]; rfl) (by decide) ?_
      refine lv_aload_n hx hb d_P_operate_199 rfl (lv_at hl 3 rfl) ?_
      refine lv_iload_n hx hb d_P_operate_200 rfl (lv_at hl 4 rfl) ?_
      refine lv_iload_n hx hb d_P_operate_201 rfl (lv_at hl 1 rfl) ?_
      refine lv_iload hx hb d_P_operate_202 (lv_at hl 0 rfl) ?_
      refine lv_bipush (v := (31 : Int32)) hx hb d_P_operate_204 (by decide) ?_
      refine lv_iand hx hb d_P_operate_206 ?_
      refine lv_ishr hx hb d_P_operate_207 ?_
      refine zc_i (w2 := fun u9 => wP h c u9) (va_runV (As := [.int p0, .int (r_3 >>> (((f_secondOperand st p0) &&& (31 : Int32)) &&& 31))]) (rest := []) ⟨hx, hb, hml, hown, ht⟩ (mt_P_deliver l D h c H.size st p0 (r_3 >>> (((f_secondOperand st p0) &&& (31 : Int32)) &&& 31)) hW) (cwV 2 ht (zgV zw_546 zw_548 zs_26 zw_4 zw_549) rfl rfl rfl kd_P_deliver ⟨Nat.le_of_ble_eq_true rfl, Nat.le_of_ble_eq_true rfl⟩) ⟨zw_blind zw_tt, va_recv (hK.sub (tys' := [(c 0, .int), (c 1, .int)]) [0, 1] rfl) (hP.sub (ws' := wP h c st) [0, 1, 2, 3, 4, 5] rfl) (ci := 2) (q0 := 0) rfl rfl, zw_go (hP.sub (ws' := wP h c st) [0, 1, 2, 3, 4, 5] rfl) (hD.sub (ws' := wP h c st) [0, 1, 2, 3, 4, 5] (by decide) rfl) (hK.sub (tys' := [(c 0, .int), (c 1, .int)]) [0, 1] rfl) (fun _ _ _ => trivial)⟩ rfl rfl hl.1 rfl (lv_room (Nat.le_of_ble_eq_true rfl)) d_P_operate_208 ⟨Nat.le_of_ble_eq_true rfl, Nat.le_of_ble_eq_true rfl⟩) hP hD hS hA [0, 1, 2, 3, 4, 5] [] [0, 1, 2, 3, 4, 5] rfl rfl (by decide) (by decide) (by decide) (fun _ => rfl) (fun r_14 u_14 H locs hw hP hD hS => ?_)
      obtain ⟨er_14, eu_14⟩ := hw
      exact zl_i (u := u_14) hx hb hr hlocks hS hP hD (⟨by subst er_3; subst er_14; subst eu_14; simp only [f_operate, if_pos c_5, if_neg c_7, if_neg c_9, if_neg c_11, if_pos c_13], by subst er_3; subst er_14; subst eu_14; simp only [f_operate, if_pos c_5, if_neg c_7, if_neg c_9, if_neg c_11, if_pos c_13]⟩) d_P_operate_211
    by_cases c_15 : (f_op3Of p0) = (40 : Int32)
    · refine lv_tableIn (tgt := 212) hx hb d_P_operate_45 (by rw [c_15]; decide) (by rw [c_15]; decide) (by rw [c_15]; rfl) (by decide) ?_
      refine lv_iload_n hx hb d_P_operate_212 rfl (lv_at hl 4 rfl) ?_
      refine zc_i (w2 := fun _ => wP h c st) (va_runS (As := [.int p0]) (rest := []) ⟨hx, hb, hml, hown, ht⟩ (mt_P_rs1Of l D H.size p0) (cwS 1 ht (zgS zw_571 zw_572 zw_4 zw_573) rfl rfl rfl kd_P_rs1Of ⟨Nat.le_of_ble_eq_true rfl, Nat.le_of_ble_eq_true rfl⟩) ⟨zw_blind zw_tt, zw_go (hP.sub (ws' := []) [] rfl) (hD.sub (ws' := []) [] (by decide) rfl) (hK.sub (tys' := []) [] rfl) (fun _ _ _ => trivial)⟩ rfl rfl hl.1 rfl (lv_room (Nat.le_of_ble_eq_true rfl)) d_P_operate_213 ⟨Nat.le_of_ble_eq_true rfl, Nat.le_of_ble_eq_true rfl⟩) hP hD hS hA [] [0, 1, 2, 3, 4, 5] [0, 1, 2, 3, 4, 5] rfl rfl (by decide) (by decide) (by decide) (fun _ => rfl) (fun r_16 _ H locs hw hP hD hS => ?_)
      subst hw
      refine zcut (X := Int32 × SP) (G := fun v9 H locs ls => v9.1 = (if (f_rs1Of p0) = (0 : Int32) then (f_deliver st p0 (st.1 2)).1 else (2 : Int32)) ∧ v9.2 = (if (f_rs1Of p0) = (0 : Int32) then (f_deliver st p0 (st.1 2)).2 else st) ∧ va_P D vwCl (wP h c v9.2) H ∧ va_D A (wP h c v9.2) ∧ va_S A s.heap H locs ∧ lv_has ls 5 [(0, .ref (h 0)), (1, .int p0), (2, .int (f_op3Of p0)), (3, .int r_3), (4, .int (f_secondOperand st p0))]) (fr := fun v9 ls => F0 m 232 ls [.int v9.1]) (fun J_19 => ?_) (fun v9 H locs ls hG => ?_)
      · refine lv_if_ne (tgt := 231) hx hb d_P_operate_216 (by decide) (fun c_20 => ?_) (fun c_20 => ?_)
        · refine lv_iconst (v := (2 : Int32)) hx hb d_P_operate_231 (by decide) ?_
          exact J_19 ((2 : Int32), st) _ _ _ ⟨by simp only [if_neg c_20], by simp only [if_neg c_20], hP, hD, hS, (lv_sub hl [3, 4, 2, 1, 0] rfl)⟩
        refine lv_aload_n hx hb d_P_operate_219 rfl (lv_at hl 3 rfl) ?_
        refine lv_iload_n hx hb d_P_operate_220 rfl (lv_at hl 4 rfl) ?_
        refine lv_aload_n hx hb d_P_operate_221 rfl (lv_at hl 3 rfl) ?_
        refine va_get (D := D) (ci := 2) (v := .int (st.1 2)) (C := "WindowMachine$Processor") (T := T_P) (N := 18) hx hb ht zi_P hown hK hP 0 rfl rfl 5 (by decide) (ht _ zw_123) (fun _ h9 => h9) rfl d_P_operate_222 ?_
        refine zc_i (w2 := fun u9 => wP h c u9) (va_runV (As := [.int p0, .int (st.1 2)]) (rest := []) ⟨hx, hb, hml, hown, ht⟩ (mt_P_deliver l D h c H.size st p0 (st.1 2) hW) (cwV 2 ht (zgV zw_546 zw_548 zs_26 zw_4 zw_549) rfl rfl rfl kd_P_deliver ⟨Nat.le_of_ble_eq_true rfl, Nat.le_of_ble_eq_true rfl⟩) ⟨zw_blind zw_tt, va_recv (hK.sub (tys' := [(c 0, .int), (c 1, .int)]) [0, 1] rfl) (hP.sub (ws' := wP h c st) [0, 1, 2, 3, 4, 5] rfl) (ci := 2) (q0 := 0) rfl rfl, zw_go (hP.sub (ws' := wP h c st) [0, 1, 2, 3, 4, 5] rfl) (hD.sub (ws' := wP h c st) [0, 1, 2, 3, 4, 5] (by decide) rfl) (hK.sub (tys' := [(c 0, .int), (c 1, .int)]) [0, 1] rfl) (fun _ _ _ => trivial)⟩ rfl rfl hl.1 rfl (lv_room (Nat.le_of_ble_eq_true rfl)) d_P_operate_225 ⟨Nat.le_of_ble_eq_true rfl, Nat.le_of_ble_eq_true rfl⟩) hP hD hS hA [0, 1, 2, 3, 4, 5] [] [0, 1, 2, 3, 4, 5] rfl rfl (by decide) (by decide) (by decide) (fun _ => rfl) (fun r_21 u_21 H locs hw hP hD hS => ?_)
        obtain ⟨rfl, rfl⟩ := hw
        refine lv_goto (tgt := 232) hx hb d_P_operate_228 (by decide) ?_
        exact J_19 ((f_deliver st p0 (st.1 2)).1, (f_deliver st p0 (st.1 2)).2) _ _ _ ⟨by simp only [if_pos c_20], by simp only [if_pos c_20], hP, hD, hS, (lv_sub hl [3, 4, 2, 1, 0] rfl)⟩
      obtain ⟨x_17, u_18⟩ := v9
      obtain ⟨ex_17, eu_18, hP, hD, hS, hl⟩ := hG
      have ex_17 : x_17 = _ := ex_17
      have eu_18 : u_18 = _ := eu_18
      exact zl_i (u := u_18) hx hb hr hlocks hS hP hD (⟨by subst er_3; subst ex_17; subst eu_18; simp only [f_operate, if_pos c_5, if_neg c_7, if_neg c_9, if_neg c_11, if_neg c_13, if_pos c_15], by subst er_3; subst ex_17; subst eu_18; simp only [f_operate, if_pos c_5, if_neg c_7, if_neg c_9, if_neg c_11, if_neg c_13, if_pos c_15]⟩) d_P_operate_232
    by_cases c_22 : (f_op3Of p0) = (41 : Int32)
    · refine lv_tableIn (tgt := 233) hx hb d_P_operate_45 (by rw [c_22]; decide) (by rw [c_22]; decide) (by rw [c_22]; rfl) (by decide) ?_
      refine lv_aload_n hx hb d_P_operate_233 rfl (lv_at hl 3 rfl) ?_
      refine lv_iload_n hx hb d_P_operate_234 rfl (lv_at hl 4 rfl) ?_
      refine lv_iload_n hx hb d_P_operate_235 rfl (lv_at hl 2 rfl) ?_
      refine zc_i (w2 := fun u9 => wP h c u9) (va_runV (As := [.int p0, .int (f_op3Of p0)]) (rest := []) ⟨hx, hb, hml, hown, ht⟩ (mt_P_readSpecial l D h c H.size st p0 (f_op3Of p0) hW) (cwV 2 ht (zgV zw_637 zw_639 zs_36 zw_4 zw_640) rfl rfl rfl kd_P_readSpecial ⟨Nat.le_of_ble_eq_true rfl, Nat.le_of_ble_eq_true rfl⟩) ⟨zw_blind zw_tt, va_recv (hK.sub (tys' := [(c 0, .int), (c 1, .int)]) [0, 1] rfl) (hP.sub (ws' := wP h c st) [0, 1, 2, 3, 4, 5] rfl) (ci := 2) (q0 := 0) rfl rfl, zw_go (hP.sub (ws' := wP h c st) [0, 1, 2, 3, 4, 5] rfl) (hD.sub (ws' := wP h c st) [0, 1, 2, 3, 4, 5] (by decide) rfl) (hK.sub (tys' := [(c 0, .int), (c 1, .int)]) [0, 1] rfl) (fun _ _ _ => trivial)⟩ rfl rfl hl.1 rfl (lv_room (Nat.le_of_ble_eq_true rfl)) d_P_operate_236 ⟨Nat.le_of_ble_eq_true rfl, Nat.le_of_ble_eq_true rfl⟩) hP hD hS hA [0, 1, 2, 3, 4, 5] [] [0, 1, 2, 3, 4, 5] rfl rfl (by decide) (by decide) (by decide) (fun _ => rfl) (fun r_23 u_23 H locs hw hP hD hS => ?_)
      obtain ⟨er_23, eu_23⟩ := hw
      exact zl_i (u := u_23) hx hb hr hlocks hS hP hD (⟨by subst er_3; subst er_23; subst eu_23; simp only [f_operate, if_pos c_5, if_neg c_7, if_neg c_9, if_neg c_11, if_neg c_13, if_neg c_15, if_pos c_22], by subst er_3; subst er_23; subst eu_23; simp only [f_operate, if_pos c_5, if_neg c_7, if_neg c_9, if_neg c_11, if_neg c_13, if_neg c_15, if_pos c_22]⟩) d_P_operate_239
    by_cases c_24 : (f_op3Of p0) = (42 : Int32)
    · refine lv_tableIn (tgt := 233) hx hb d_P_operate_45 (by rw [c_24]; decide) (by rw [c_24]; decide) (by rw [c_24]; rfl) (by decide) ?_
      refine lv_aload_n hx hb d_P_operate_233 rfl (lv_at hl 3 rfl) ?_
      refine lv_iload_n hx hb d_P_operate_234 rfl (lv_at hl 4 rfl) ?_
      refine lv_iload_n hx hb d_P_operate_235 rfl (lv_at hl 2 rfl) ?_
      refine zc_i (w2 := fun u9 => wP h c u9) (va_runV (As := [.int p0, .int (f_op3Of p0)]) (rest := []) ⟨hx, hb, hml, hown, ht⟩ (mt_P_readSpecial l D h c H.size st p0 (f_op3Of p0) hW) (cwV 2 ht (zgV zw_637 zw_639 zs_36 zw_4 zw_640) rfl rfl rfl kd_P_readSpecial ⟨Nat.le_of_ble_eq_true rfl, Nat.le_of_ble_eq_true rfl⟩) ⟨zw_blind zw_tt, va_recv (hK.sub (tys' := [(c 0, .int), (c 1, .int)]) [0, 1] rfl) (hP.sub (ws' := wP h c st) [0, 1, 2, 3, 4, 5] rfl) (ci := 2) (q0 := 0) rfl rfl, zw_go (hP.sub (ws' := wP h c st) [0, 1, 2, 3, 4, 5] rfl) (hD.sub (ws' := wP h c st) [0, 1, 2, 3, 4, 5] (by decide) rfl) (hK.sub (tys' := [(c 0, .int), (c 1, .int)]) [0, 1] rfl) (fun _ _ _ => trivial)⟩ rfl rfl hl.1 rfl (lv_room (Nat.le_of_ble_eq_true rfl)) d_P_operate_236 ⟨Nat.le_of_ble_eq_true rfl, Nat.le_of_ble_eq_true rfl⟩) hP hD hS hA [0, 1, 2, 3, 4, 5] [] [0, 1, 2, 3, 4, 5] rfl rfl (by decide) (by decide) (by decide) (fun _ => rfl) (fun r_25 u_25 H locs hw hP hD hS => ?_)
      obtain ⟨er_25, eu_25⟩ := hw
      exact zl_i (u := u_25) hx hb hr hlocks hS hP hD (⟨by subst er_3; subst er_25; subst eu_25; simp only [f_operate, if_pos c_5, if_neg c_7, if_neg c_9, if_neg c_11, if_neg c_13, if_neg c_15, if_neg c_22, if_pos c_24], by subst er_3; subst er_25; subst eu_25; simp only [f_operate, if_pos c_5, if_neg c_7, if_neg c_9, if_neg c_11, if_neg c_13, if_neg c_15, if_neg c_22, if_pos c_24]⟩) d_P_operate_239
    by_cases c_26 : (f_op3Of p0) = (43 : Int32)
    · refine lv_tableIn (tgt := 233) hx hb d_P_operate_45 (by rw [c_26]; decide) (by rw [c_26]; decide) (by rw [c_26]; rfl) (by decide) ?_
      refine lv_aload_n hx hb d_P_operate_233 rfl (lv_at hl 3 rfl) ?_
      refine lv_iload_n hx hb d_P_operate_234 rfl (lv_at hl 4 rfl) ?_
      refine lv_iload_n hx hb d_P_operate_235 rfl (lv_at hl 2 rfl) ?_
      refine zc_i (w2 := fun u9 => wP h c u9) (va_runV (As := [.int p0, .int (f_op3Of p0)]) (rest := []) ⟨hx, hb, hml, hown, ht⟩ (mt_P_readSpecial l D h c H.size st p0 (f_op3Of p0) hW) (cwV 2 ht (zgV zw_637 zw_639 zs_36 zw_4 zw_640) rfl rfl rfl kd_P_readSpecial ⟨Nat.le_of_ble_eq_true rfl, Nat.le_of_ble_eq_true rfl⟩) ⟨zw_blind zw_tt, va_recv (hK.sub (tys' := [(c 0, .int), (c 1, .int)]) [0, 1] rfl) (hP.sub (ws' := wP h c st) [0, 1, 2, 3, 4, 5] rfl) (ci := 2) (q0 := 0) rfl rfl, zw_go (hP.sub (ws' := wP h c st) [0, 1, 2, 3, 4, 5] rfl) (hD.sub (ws' := wP h c st) [0, 1, 2, 3, 4, 5] (by decide) rfl) (hK.sub (tys' := [(c 0, .int), (c 1, .int)]) [0, 1] rfl) (fun _ _ _ => trivial)⟩ rfl rfl hl.1 rfl (lv_room (Nat.le_of_ble_eq_true rfl)) d_P_operate_236 ⟨Nat.le_of_ble_eq_true rfl, Nat.le_of_ble_eq_true rfl⟩) hP hD hS hA [0, 1, 2, 3, 4, 5] [] [0, 1, 2, 3, 4, 5] rfl rfl (by decide) (by decide) (by decide) (fun _ => rfl) (fun r_27 u_27 H locs hw hP hD hS => ?_)
      obtain ⟨er_27, eu_27⟩ := hw
      exact zl_i (u := u_27) hx hb hr hlocks hS hP hD (⟨by subst er_3; subst er_27; subst eu_27; simp only [f_operate, if_pos c_5, if_neg c_7, if_neg c_9, if_neg c_11, if_neg c_13, if_neg c_15, if_neg c_22, if_neg c_24, if_pos c_26], by subst er_3; subst er_27; subst eu_27; simp only [f_operate, if_pos c_5, if_neg c_7, if_neg c_9, if_neg c_11, if_neg c_13, if_neg c_15, if_neg c_22, if_neg c_24, if_pos c_26]⟩) d_P_operate_239
    by_cases c_28 : (f_op3Of p0) = (48 : Int32)
    · refine lv_tableIn (tgt := 240) hx hb d_P_operate_45 (by rw [c_28]; decide) (by rw [c_28]; decide) (by rw [c_28]; rfl) (by decide) ?_
      refine lv_aload_n hx hb d_P_operate_240 rfl (lv_at hl 3 rfl) ?_
      refine lv_iload_n hx hb d_P_operate_241 rfl (lv_at hl 4 rfl) ?_
      refine lv_iload_n hx hb d_P_operate_242 rfl (lv_at hl 1 rfl) ?_
      refine lv_iload hx hb d_P_operate_243 (lv_at hl 0 rfl) ?_
      refine lv_ixor hx hb d_P_operate_245 ?_
      refine zc_i (w2 := fun u9 => wP h c u9) (va_runV (As := [.int p0, .int (r_3 ^^^ (f_secondOperand st p0))]) (rest := []) ⟨hx, hb, hml, hown, ht⟩ (mt_P_writeY l D h c H.size st p0 (r_3 ^^^ (f_secondOperand st p0))) (cwV 2 ht (zgV zw_641 zw_643 zs_37 zw_4 zw_644) rfl rfl rfl kd_P_writeY ⟨Nat.le_of_ble_eq_true rfl, Nat.le_of_ble_eq_true rfl⟩) ⟨zw_blind zw_tt, va_recv (hK.sub (tys' := [(c 0, .int), (c 1, .int)]) [0, 1] rfl) (hP.sub (ws' := wP h c st) [0, 1, 2, 3, 4, 5] rfl) (ci := 2) (q0 := 0) rfl rfl, zw_go (hP.sub (ws' := wP h c st) [0, 1, 2, 3, 4, 5] rfl) (hD.sub (ws' := wP h c st) [0, 1, 2, 3, 4, 5] (by decide) rfl) (hK.sub (tys' := [(c 0, .int), (c 1, .int)]) [0, 1] rfl) (fun _ _ _ => trivial)⟩ rfl rfl hl.1 rfl (lv_room (Nat.le_of_ble_eq_true rfl)) d_P_operate_246 ⟨Nat.le_of_ble_eq_true rfl, Nat.le_of_ble_eq_true rfl⟩) hP hD hS hA [0, 1, 2, 3, 4, 5] [] [0, 1, 2, 3, 4, 5] rfl rfl (by decide) (by decide) (by decide) (fun _ => rfl) (fun r_29 u_29 H locs hw hP hD hS => ?_)
      obtain ⟨er_29, eu_29⟩ := hw
      exact zl_i (u := u_29) hx hb hr hlocks hS hP hD (⟨by subst er_3; subst er_29; subst eu_29; simp only [f_operate, if_pos c_5, if_neg c_7, if_neg c_9, if_neg c_11, if_neg c_13, if_neg c_15, if_neg c_22, if_neg c_24, if_neg c_26, if_pos c_28], by subst er_3; subst er_29; subst eu_29; simp only [f_operate, if_pos c_5, if_neg c_7, if_neg c_9, if_neg c_11, if_neg c_13, if_neg c_15, if_neg c_22, if_neg c_24, if_neg c_26, if_pos c_28]⟩) d_P_operate_249
    by_cases c_30 : (f_op3Of p0) = (49 : Int32)
    · refine lv_tableIn (tgt := 250) hx hb d_P_operate_45 (by rw [c_30]; decide) (by rw [c_30]; decide) (by rw [c_30]; rfl) (by decide) ?_
      refine lv_aload_n hx hb d_P_operate_250 rfl (lv_at hl 3 rfl) ?_
      refine lv_iload_n hx hb d_P_operate_251 rfl (lv_at hl 2 rfl) ?_
      refine lv_iload_n hx hb d_P_operate_252 rfl (lv_at hl 1 rfl) ?_
      refine lv_iload hx hb d_P_operate_253 (lv_at hl 0 rfl) ?_
      refine lv_ixor hx hb d_P_operate_255 ?_
      refine zc_i (w2 := fun u9 => wP h c u9) (va_runV (As := [.int (f_op3Of p0), .int (r_3 ^^^ (f_secondOperand st p0))]) (rest := []) ⟨hx, hb, hml, hown, ht⟩ (mt_P_writeSpecial l D h c H.size st (f_op3Of p0) (r_3 ^^^ (f_secondOperand st p0))) (cwV 2 ht (zgV zw_645 zw_647 zs_38 zw_4 zw_648) rfl rfl rfl kd_P_writeSpecial ⟨Nat.le_of_ble_eq_true rfl, Nat.le_of_ble_eq_true rfl⟩) ⟨zw_blind zw_tt, va_recv (hK.sub (tys' := [(c 0, .int), (c 1, .int)]) [0, 1] rfl) (hP.sub (ws' := wP h c st) [0, 1, 2, 3, 4, 5] rfl) (ci := 2) (q0 := 0) rfl rfl, zw_go (hP.sub (ws' := wP h c st) [0, 1, 2, 3, 4, 5] rfl) (hD.sub (ws' := wP h c st) [0, 1, 2, 3, 4, 5] (by decide) rfl) (hK.sub (tys' := [(c 0, .int), (c 1, .int)]) [0, 1] rfl) (fun _ _ _ => trivial)⟩ rfl rfl hl.1 rfl (lv_room (Nat.le_of_ble_eq_true rfl)) d_P_operate_256 ⟨Nat.le_of_ble_eq_true rfl, Nat.le_of_ble_eq_true rfl⟩) hP hD hS hA [0, 1, 2, 3, 4, 5] [] [0, 1, 2, 3, 4, 5] rfl rfl (by decide) (by decide) (by decide) (fun _ => rfl) (fun r_31 u_31 H locs hw hP hD hS => ?_)
      obtain ⟨er_31, eu_31⟩ := hw
      exact zl_i (u := u_31) hx hb hr hlocks hS hP hD (⟨by subst er_3; subst er_31; subst eu_31; simp only [f_operate, if_pos c_5, if_neg c_7, if_neg c_9, if_neg c_11, if_neg c_13, if_neg c_15, if_neg c_22, if_neg c_24, if_neg c_26, if_neg c_28, if_pos c_30], by subst er_3; subst er_31; subst eu_31; simp only [f_operate, if_pos c_5, if_neg c_7, if_neg c_9, if_neg c_11, if_neg c_13, if_neg c_15, if_neg c_22, if_neg c_24, if_neg c_26, if_neg c_28, if_pos c_30]⟩) d_P_operate_259
    by_cases c_32 : (f_op3Of p0) = (50 : Int32)
    · refine lv_tableIn (tgt := 250) hx hb d_P_operate_45 (by rw [c_32]; decide) (by rw [c_32]; decide) (by rw [c_32]; rfl) (by decide) ?_
      refine lv_aload_n hx hb d_P_operate_250 rfl (lv_at hl 3 rfl) ?_
      refine lv_iload_n hx hb d_P_operate_251 rfl (lv_at hl 2 rfl) ?_
      refine lv_iload_n hx hb d_P_operate_252 rfl (lv_at hl 1 rfl) ?_
      refine lv_iload hx hb d_P_operate_253 (lv_at hl 0 rfl) ?_
      refine lv_ixor hx hb d_P_operate_255 ?_
      refine zc_i (w2 := fun u9 => wP h c u9) (va_runV (As := [.int (f_op3Of p0), .int (r_3 ^^^ (f_secondOperand st p0))]) (rest := []) ⟨hx, hb, hml, hown, ht⟩ (mt_P_writeSpecial l D h c H.size st (f_op3Of p0) (r_3 ^^^ (f_secondOperand st p0))) (cwV 2 ht (zgV zw_645 zw_647 zs_38 zw_4 zw_648) rfl rfl rfl kd_P_writeSpecial ⟨Nat.le_of_ble_eq_true rfl, Nat.le_of_ble_eq_true rfl⟩) ⟨zw_blind zw_tt, va_recv (hK.sub (tys' := [(c 0, .int), (c 1, .int)]) [0, 1] rfl) (hP.sub (ws' := wP h c st) [0, 1, 2, 3, 4, 5] rfl) (ci := 2) (q0 := 0) rfl rfl, zw_go (hP.sub (ws' := wP h c st) [0, 1, 2, 3, 4, 5] rfl) (hD.sub (ws' := wP h c st) [0, 1, 2, 3, 4, 5] (by decide) rfl) (hK.sub (tys' := [(c 0, .int), (c 1, .int)]) [0, 1] rfl) (fun _ _ _ => trivial)⟩ rfl rfl hl.1 rfl (lv_room (Nat.le_of_ble_eq_true rfl)) d_P_operate_256 ⟨Nat.le_of_ble_eq_true rfl, Nat.le_of_ble_eq_true rfl⟩) hP hD hS hA [0, 1, 2, 3, 4, 5] [] [0, 1, 2, 3, 4, 5] rfl rfl (by decide) (by decide) (by decide) (fun _ => rfl) (fun r_33 u_33 H locs hw hP hD hS => ?_)
      obtain ⟨er_33, eu_33⟩ := hw
      exact zl_i (u := u_33) hx hb hr hlocks hS hP hD (⟨by subst er_3; subst er_33; subst eu_33; simp only [f_operate, if_pos c_5, if_neg c_7, if_neg c_9, if_neg c_11, if_neg c_13, if_neg c_15, if_neg c_22, if_neg c_24, if_neg c_26, if_neg c_28, if_neg c_30, if_pos c_32], by subst er_3; subst er_33; subst eu_33; simp only [f_operate, if_pos c_5, if_neg c_7, if_neg c_9, if_neg c_11, if_neg c_13, if_neg c_15, if_neg c_22, if_neg c_24, if_neg c_26, if_neg c_28, if_neg c_30, if_pos c_32]⟩) d_P_operate_259
    by_cases c_34 : (f_op3Of p0) = (51 : Int32)
    · refine lv_tableIn (tgt := 250) hx hb d_P_operate_45 (by rw [c_34]; decide) (by rw [c_34]; decide) (by rw [c_34]; rfl) (by decide) ?_
      refine lv_aload_n hx hb d_P_operate_250 rfl (lv_at hl 3 rfl) ?_
      refine lv_iload_n hx hb d_P_operate_251 rfl (lv_at hl 2 rfl) ?_
      refine lv_iload_n hx hb d_P_operate_252 rfl (lv_at hl 1 rfl) ?_
      refine lv_iload hx hb d_P_operate_253 (lv_at hl 0 rfl) ?_
      refine lv_ixor hx hb d_P_operate_255 ?_
      refine zc_i (w2 := fun u9 => wP h c u9) (va_runV (As := [.int (f_op3Of p0), .int (r_3 ^^^ (f_secondOperand st p0))]) (rest := []) ⟨hx, hb, hml, hown, ht⟩ (mt_P_writeSpecial l D h c H.size st (f_op3Of p0) (r_3 ^^^ (f_secondOperand st p0))) (cwV 2 ht (zgV zw_645 zw_647 zs_38 zw_4 zw_648) rfl rfl rfl kd_P_writeSpecial ⟨Nat.le_of_ble_eq_true rfl, Nat.le_of_ble_eq_true rfl⟩) ⟨zw_blind zw_tt, va_recv (hK.sub (tys' := [(c 0, .int), (c 1, .int)]) [0, 1] rfl) (hP.sub (ws' := wP h c st) [0, 1, 2, 3, 4, 5] rfl) (ci := 2) (q0 := 0) rfl rfl, zw_go (hP.sub (ws' := wP h c st) [0, 1, 2, 3, 4, 5] rfl) (hD.sub (ws' := wP h c st) [0, 1, 2, 3, 4, 5] (by decide) rfl) (hK.sub (tys' := [(c 0, .int), (c 1, .int)]) [0, 1] rfl) (fun _ _ _ => trivial)⟩ rfl rfl hl.1 rfl (lv_room (Nat.le_of_ble_eq_true rfl)) d_P_operate_256 ⟨Nat.le_of_ble_eq_true rfl, Nat.le_of_ble_eq_true rfl⟩) hP hD hS hA [0, 1, 2, 3, 4, 5] [] [0, 1, 2, 3, 4, 5] rfl rfl (by decide) (by decide) (by decide) (fun _ => rfl) (fun r_35 u_35 H locs hw hP hD hS => ?_)
      obtain ⟨er_35, eu_35⟩ := hw
      exact zl_i (u := u_35) hx hb hr hlocks hS hP hD (⟨by subst er_3; subst er_35; subst eu_35; simp only [f_operate, if_pos c_5, if_neg c_7, if_neg c_9, if_neg c_11, if_neg c_13, if_neg c_15, if_neg c_22, if_neg c_24, if_neg c_26, if_neg c_28, if_neg c_30, if_neg c_32, if_pos c_34], by subst er_3; subst er_35; subst eu_35; simp only [f_operate, if_pos c_5, if_neg c_7, if_neg c_9, if_neg c_11, if_neg c_13, if_neg c_15, if_neg c_22, if_neg c_24, if_neg c_26, if_neg c_28, if_neg c_30, if_neg c_32, if_pos c_34]⟩) d_P_operate_259
    by_cases c_36 : (f_op3Of p0) = (56 : Int32)
    · refine lv_tableIn (tgt := 260) hx hb d_P_operate_45 (by rw [c_36]; decide) (by rw [c_36]; decide) (by rw [c_36]; rfl) (by decide) ?_
      refine lv_aload_n hx hb d_P_operate_260 rfl (lv_at hl 3 rfl) ?_
      refine lv_iload_n hx hb d_P_operate_261 rfl (lv_at hl 4 rfl) ?_
      refine lv_iload_n hx hb d_P_operate_262 rfl (lv_at hl 1 rfl) ?_
      refine lv_iload hx hb d_P_operate_263 (lv_at hl 0 rfl) ?_
      refine lv_iadd hx hb d_P_operate_265 ?_
      refine zc_i (w2 := fun u9 => wP h c u9) (va_runV (As := [.int p0, .int (r_3 + (f_secondOperand st p0))]) (rest := []) ⟨hx, hb, hml, hown, ht⟩ (mt_P_jump l D h c H.size st p0 (r_3 + (f_secondOperand st p0)) hW) (cwV 2 ht (zgV zw_653 zw_655 zs_40 zw_4 zw_656) rfl rfl rfl kd_P_jump ⟨Nat.le_of_ble_eq_true rfl, Nat.le_of_ble_eq_true rfl⟩) ⟨zw_blind zw_tt, va_recv (hK.sub (tys' := [(c 0, .int), (c 1, .int)]) [0, 1] rfl) (hP.sub (ws' := wP h c st) [0, 1, 2, 3, 4, 5] rfl) (ci := 2) (q0 := 0) rfl rfl, zw_go (hP.sub (ws' := wP h c st) [0, 1, 2, 3, 4, 5] rfl) (hD.sub (ws' := wP h c st) [0, 1, 2, 3, 4, 5] (by decide) rfl) (hK.sub (tys' := [(c 0, .int), (c 1, .int)]) [0, 1] rfl) (fun _ _ _ => trivial)⟩ rfl rfl hl.1 rfl (lv_room (Nat.le_of_ble_eq_true rfl)) d_P_operate_266 ⟨Nat.le_of_ble_eq_true rfl, Nat.le_of_ble_eq_true rfl⟩) hP hD hS hA [0, 1, 2, 3, 4, 5] [] [0, 1, 2, 3, 4, 5] rfl rfl (by decide) (by decide) (by decide) (fun _ => rfl) (fun r_37 u_37 H locs hw hP hD hS => ?_)
      obtain ⟨er_37, eu_37⟩ := hw
      exact zl_i (u := u_37) hx hb hr hlocks hS hP hD (⟨by subst er_3; subst er_37; subst eu_37; simp only [f_operate, if_pos c_5, if_neg c_7, if_neg c_9, if_neg c_11, if_neg c_13, if_neg c_15, if_neg c_22, if_neg c_24, if_neg c_26, if_neg c_28, if_neg c_30, if_neg c_32, if_neg c_34, if_pos c_36], by subst er_3; subst er_37; subst eu_37; simp only [f_operate, if_pos c_5, if_neg c_7, if_neg c_9, if_neg c_11, if_neg c_13, if_neg c_15, if_neg c_22, if_neg c_24, if_neg c_26, if_neg c_28, if_neg c_30, if_neg c_32, if_neg c_34, if_pos c_36]⟩) d_P_operate_269
    by_cases c_38 : (f_op3Of p0) = (57 : Int32)
    · refine lv_tableIn (tgt := 270) hx hb d_P_operate_45 (by rw [c_38]; decide) (by rw [c_38]; decide) (by rw [c_38]; rfl) (by decide) ?_
      refine lv_aload_n hx hb d_P_operate_270 rfl (lv_at hl 3 rfl) ?_
      refine lv_iload_n hx hb d_P_operate_271 rfl (lv_at hl 1 rfl) ?_
      refine lv_iload hx hb d_P_operate_272 (lv_at hl 0 rfl) ?_
      refine lv_iadd hx hb d_P_operate_274 ?_
      refine zc_i (w2 := fun u9 => wP h c u9) (va_runV (As := [.int (r_3 + (f_secondOperand st p0))]) (rest := []) ⟨hx, hb, hml, hown, ht⟩ (mt_P_returnFromTrap l D h c H.size st (r_3 + (f_secondOperand st p0))) (cwV 1 ht (zgV zw_657 zw_659 zs_41 zw_4 zw_660) rfl rfl rfl kd_P_returnFromTrap ⟨Nat.le_of_ble_eq_true rfl, Nat.le_of_ble_eq_true rfl⟩) ⟨zw_blind zw_tt, va_recv (hK.sub (tys' := [(c 0, .int), (c 1, .int)]) [0, 1] rfl) (hP.sub (ws' := wP h c st) [0, 1, 2, 3, 4, 5] rfl) (ci := 2) (q0 := 0) rfl rfl, zw_go (hP.sub (ws' := wP h c st) [0, 1, 2, 3, 4, 5] rfl) (hD.sub (ws' := wP h c st) [0, 1, 2, 3, 4, 5] (by decide) rfl) (hK.sub (tys' := [(c 0, .int), (c 1, .int)]) [0, 1] rfl) (fun _ _ _ => trivial)⟩ rfl rfl hl.1 rfl (lv_room (Nat.le_of_ble_eq_true rfl)) d_P_operate_275 ⟨Nat.le_of_ble_eq_true rfl, Nat.le_of_ble_eq_true rfl⟩) hP hD hS hA [0, 1, 2, 3, 4, 5] [] [0, 1, 2, 3, 4, 5] rfl rfl (by decide) (by decide) (by decide) (fun _ => rfl) (fun r_39 u_39 H locs hw hP hD hS => ?_)
      obtain ⟨er_39, eu_39⟩ := hw
      exact zl_i (u := u_39) hx hb hr hlocks hS hP hD (⟨by subst er_3; subst er_39; subst eu_39; simp only [f_operate, if_pos c_5, if_neg c_7, if_neg c_9, if_neg c_11, if_neg c_13, if_neg c_15, if_neg c_22, if_neg c_24, if_neg c_26, if_neg c_28, if_neg c_30, if_neg c_32, if_neg c_34, if_neg c_36, if_pos c_38], by subst er_3; subst er_39; subst eu_39; simp only [f_operate, if_pos c_5, if_neg c_7, if_neg c_9, if_neg c_11, if_neg c_13, if_neg c_15, if_neg c_22, if_neg c_24, if_neg c_26, if_neg c_28, if_neg c_30, if_neg c_32, if_neg c_34, if_neg c_36, if_pos c_38]⟩) d_P_operate_278
    by_cases c_40 : (f_op3Of p0) = (58 : Int32)
    · refine lv_tableIn (tgt := 279) hx hb d_P_operate_45 (by rw [c_40]; decide) (by rw [c_40]; decide) (by rw [c_40]; rfl) (by decide) ?_
      refine lv_aload_n hx hb d_P_operate_279 rfl (lv_at hl 3 rfl) ?_
      refine lv_iload_n hx hb d_P_operate_280 rfl (lv_at hl 4 rfl) ?_
      refine zc_i (w2 := fun _ => wP h c st) (va_runS (As := [.int p0]) (rest := [.ref (h 0)]) ⟨hx, hb, hml, hown, ht⟩ (mt_P_conditionOf l D H.size p0) (cwS 1 ht (zgS zw_539 zw_540 zw_4 zw_541) rfl rfl rfl kd_P_conditionOf ⟨Nat.le_of_ble_eq_true rfl, Nat.le_of_ble_eq_true rfl⟩) ⟨zw_blind zw_tt, zw_go (hP.sub (ws' := []) [] rfl) (hD.sub (ws' := []) [] (by decide) rfl) (hK.sub (tys' := []) [] rfl) (fun _ _ _ => trivial)⟩ rfl rfl hl.1 rfl (lv_room (Nat.le_of_ble_eq_true rfl)) d_P_operate_281 ⟨Nat.le_of_ble_eq_true rfl, Nat.le_of_ble_eq_true rfl⟩) hP hD hS hA [] [0, 1, 2, 3, 4, 5] [0, 1, 2, 3, 4, 5] rfl rfl (by decide) (by decide) (by decide) (fun _ => rfl) (fun r_41 _ H locs hw hP hD hS => ?_)
      subst hw
      refine zc_i (w2 := fun _ => wP h c st) (va_runV (As := [.int (f_conditionOf p0)]) (rest := []) ⟨hx, hb, hml, hown, ht⟩ (mt_P_isMet l D h c H.size st (f_conditionOf p0)) (cwV 1 ht (zgV zw_542 zw_544 zs_25 zw_4 zw_545) rfl rfl rfl kd_P_isMet ⟨Nat.le_of_ble_eq_true rfl, Nat.le_of_ble_eq_true rfl⟩) ⟨zw_blind zw_tt, va_recv (hK.sub (tys' := [(c 0, .int), (c 1, .int)]) [0, 1] rfl) (hP.sub (ws' := wP h c st) [0, 1, 2, 3, 4, 5] rfl) (ci := 2) (q0 := 0) rfl rfl, zw_go (hP.sub (ws' := wP h c st) [0, 1, 2, 3, 4, 5] rfl) (hD.sub (ws' := wP h c st) [0, 1, 2, 3, 4, 5] (by decide) rfl) (hK.sub (tys' := [(c 0, .int), (c 1, .int)]) [0, 1] rfl) (fun _ _ _ => trivial)⟩ rfl rfl hl.1 rfl (lv_room (Nat.le_of_ble_eq_true rfl)) d_P_operate_284 ⟨Nat.le_of_ble_eq_true rfl, Nat.le_of_ble_eq_true rfl⟩) hP hD hS hA [0, 1, 2, 3, 4, 5] [] [0, 1, 2, 3, 4, 5] rfl rfl (by decide) (by decide) (by decide) (fun _ => rfl) (fun r_42 _ H locs hw hP hD hS => ?_)
      have er_42 := hw
      refine zcut (X := Int32) (G := fun v9 H locs ls => v9 = (if r_42 = (0 : Int32) then (-1 : Int32) else (128 : Int32) + ((r_3 + (f_secondOperand st p0)) &&& (127 : Int32))) ∧ va_P D vwCl (wP h c st) H ∧ va_D A (wP h c st) ∧ va_S A s.heap H locs ∧ lv_has ls 5 [(0, .ref (h 0)), (1, .int p0), (2, .int (f_op3Of p0)), (3, .int r_3), (4, .int (f_secondOperand st p0))]) (fr := fun v9 ls => F0 m 305 ls [.int v9]) (fun J_44 => ?_) (fun v9 H locs ls hG => ?_)
      · refine lv_if_eq (tgt := 304) hx hb d_P_operate_287 (by decide) (fun c_45 => ?_) (fun c_45 => ?_)
        · refine lv_iconst (v := (-1 : Int32)) hx hb d_P_operate_304 (by decide) ?_
          exact J_44 (-1 : Int32) _ _ _ ⟨by simp only [if_pos c_45], hP, hD, hS, (lv_sub hl [3, 4, 2, 1, 0] rfl)⟩
        refine lv_sipush (v := (128 : Int32)) hx hb d_P_operate_290 (by decide) ?_
        refine lv_iload_n hx hb d_P_operate_293 rfl (lv_at hl 1 rfl) ?_
        refine lv_iload hx hb d_P_operate_294 (lv_at hl 0 rfl) ?_
        refine lv_iadd hx hb d_P_operate_296 ?_
        refine lv_bipush (v := (127 : Int32)) hx hb d_P_operate_297 (by decide) ?_
        refine lv_iand hx hb d_P_operate_299 ?_
        refine lv_iadd hx hb d_P_operate_300 ?_
        refine lv_goto (tgt := 305) hx hb d_P_operate_301 (by decide) ?_
        exact J_44 ((128 : Int32) + ((r_3 + (f_secondOperand st p0)) &&& (127 : Int32))) _ _ _ ⟨by simp only [if_neg c_45], hP, hD, hS, (lv_sub hl [3, 4, 2, 1, 0] rfl)⟩
      obtain ⟨x_43, rfl⟩ : ∃ z, z = v9 := ⟨_, rfl⟩
      obtain ⟨ex_43, hP, hD, hS, hl⟩ := hG
      exact zl_i (u := st) hx hb hr hlocks hS hP hD (⟨by subst er_3; subst er_42; subst ex_43; simp only [f_operate, if_pos c_5, if_neg c_7, if_neg c_9, if_neg c_11, if_neg c_13, if_neg c_15, if_neg c_22, if_neg c_24, if_neg c_26, if_neg c_28, if_neg c_30, if_neg c_32, if_neg c_34, if_neg c_36, if_neg c_38, if_pos c_40], by subst er_3; subst er_42; subst ex_43; simp only [f_operate, if_pos c_5, if_neg c_7, if_neg c_9, if_neg c_11, if_neg c_13, if_neg c_15, if_neg c_22, if_neg c_24, if_neg c_26, if_neg c_28, if_neg c_30, if_neg c_32, if_neg c_34, if_neg c_36, if_neg c_38, if_pos c_40]⟩) d_P_operate_305
    by_cases c_46 : (f_op3Of p0) = (60 : Int32)
    · refine lv_tableIn (tgt := 306) hx hb d_P_operate_45 (by rw [c_46]; decide) (by rw [c_46]; decide) (by rw [c_46]; rfl) (by decide) ?_
      refine lv_aload_n hx hb d_P_operate_306 rfl (lv_at hl 3 rfl) ?_
      refine lv_iload_n hx hb d_P_operate_307 rfl (lv_at hl 4 rfl) ?_
      refine lv_aload_n hx hb d_P_operate_308 rfl (lv_at hl 3 rfl) ?_
      refine zc_i (w2 := fun _ => wP h c st) (va_runV (As := []) (rest := [.int p0, .ref (h 0)]) ⟨hx, hb, hml, hown, ht⟩ (mt_P_windowBelow l D h c H.size st) (cwV 0 ht (zgV zw_669 zw_671 zs_44 zw_4 zw_672) rfl rfl rfl kd_P_windowBelow ⟨Nat.le_of_ble_eq_true rfl, Nat.le_of_ble_eq_true rfl⟩) ⟨zw_blind zw_tt, va_recv (hK.sub (tys' := [(c 0, .int), (c 1, .int)]) [0, 1] rfl) (hP.sub (ws' := wP h c st) [0, 1, 2, 3, 4, 5] rfl) (ci := 2) (q0 := 0) rfl rfl, zw_go (hP.sub (ws' := wP h c st) [0, 1, 2, 3, 4, 5] rfl) (hD.sub (ws' := wP h c st) [0, 1, 2, 3, 4, 5] (by decide) rfl) (hK.sub (tys' := [(c 0, .int), (c 1, .int)]) [0, 1] rfl) (fun _ _ _ => trivial)⟩ rfl rfl hl.1 rfl (lv_room (Nat.le_of_ble_eq_true rfl)) d_P_operate_309 ⟨Nat.le_of_ble_eq_true rfl, Nat.le_of_ble_eq_true rfl⟩) hP hD hS hA [0, 1, 2, 3, 4, 5] [] [0, 1, 2, 3, 4, 5] rfl rfl (by decide) (by decide) (by decide) (fun _ => rfl) (fun r_47 _ H locs hw hP hD hS => ?_)
      subst hw
      refine lv_iconst (v := (5 : Int32)) hx hb d_P_operate_312 (by decide) ?_
      refine lv_iload_n hx hb d_P_operate_313 rfl (lv_at hl 1 rfl) ?_
      refine lv_iload hx hb d_P_operate_314 (lv_at hl 0 rfl) ?_
      refine lv_iadd hx hb d_P_operate_316 ?_
      refine zc_i (w2 := fun u9 => wP h c u9) (va_runV (As := [.int p0, .int (f_windowBelow st), .int (5 : Int32), .int (r_3 + (f_secondOperand st p0))]) (rest := []) ⟨hx, hb, hml, hown, ht⟩ (mt_P_moveWindow l D h c H.size st p0 (f_windowBelow st) (5 : Int32) (r_3 + (f_secondOperand st p0)) (wb_in hW)) (cwV 4 ht (zgV zw_673 zw_675 zs_45 zw_4 zw_676) rfl rfl rfl kd_P_moveWindow ⟨Nat.le_of_ble_eq_true rfl, Nat.le_of_ble_eq_true rfl⟩) ⟨zw_blind zw_tt, va_recv (hK.sub (tys' := [(c 0, .int), (c 1, .int)]) [0, 1] rfl) (hP.sub (ws' := wP h c st) [0, 1, 2, 3, 4, 5] rfl) (ci := 2) (q0 := 0) rfl rfl, zw_go (hP.sub (ws' := wP h c st) [0, 1, 2, 3, 4, 5] rfl) (hD.sub (ws' := wP h c st) [0, 1, 2, 3, 4, 5] (by decide) rfl) (hK.sub (tys' := [(c 0, .int), (c 1, .int)]) [0, 1] rfl) (fun _ _ _ => trivial)⟩ rfl rfl hl.1 rfl (lv_room (Nat.le_of_ble_eq_true rfl)) d_P_operate_317 ⟨Nat.le_of_ble_eq_true rfl, Nat.le_of_ble_eq_true rfl⟩) hP hD hS hA [0, 1, 2, 3, 4, 5] [] [0, 1, 2, 3, 4, 5] rfl rfl (by decide) (by decide) (by decide) (fun _ => rfl) (fun r_48 u_48 H locs hw hP hD hS => ?_)
      obtain ⟨er_48, eu_48⟩ := hw
      exact zl_i (u := u_48) hx hb hr hlocks hS hP hD (⟨by subst er_3; subst er_48; subst eu_48; simp only [f_operate, if_pos c_5, if_neg c_7, if_neg c_9, if_neg c_11, if_neg c_13, if_neg c_15, if_neg c_22, if_neg c_24, if_neg c_26, if_neg c_28, if_neg c_30, if_neg c_32, if_neg c_34, if_neg c_36, if_neg c_38, if_neg c_40, if_pos c_46], by subst er_3; subst er_48; subst eu_48; simp only [f_operate, if_pos c_5, if_neg c_7, if_neg c_9, if_neg c_11, if_neg c_13, if_neg c_15, if_neg c_22, if_neg c_24, if_neg c_26, if_neg c_28, if_neg c_30, if_neg c_32, if_neg c_34, if_neg c_36, if_neg c_38, if_neg c_40, if_pos c_46]⟩) d_P_operate_320
    by_cases c_49 : (f_op3Of p0) = (61 : Int32)
    · refine lv_tableIn (tgt := 321) hx hb d_P_operate_45 (by rw [c_49]; decide) (by rw [c_49]; decide) (by rw [c_49]; rfl) (by decide) ?_
      refine lv_aload_n hx hb d_P_operate_321 rfl (lv_at hl 3 rfl) ?_
      refine lv_iload_n hx hb d_P_operate_322 rfl (lv_at hl 4 rfl) ?_
      refine lv_aload_n hx hb d_P_operate_323 rfl (lv_at hl 3 rfl) ?_
      refine zc_i (w2 := fun _ => wP h c st) (va_runV (As := []) (rest := [.int p0, .ref (h 0)]) ⟨hx, hb, hml, hown, ht⟩ (mt_P_windowAbove l D h c H.size st) (cwV 0 ht (zgV zw_661 zw_663 zs_42 zw_4 zw_664) rfl rfl rfl kd_P_windowAbove ⟨Nat.le_of_ble_eq_true rfl, Nat.le_of_ble_eq_true rfl⟩) ⟨zw_blind zw_tt, va_recv (hK.sub (tys' := [(c 0, .int), (c 1, .int)]) [0, 1] rfl) (hP.sub (ws' := wP h c st) [0, 1, 2, 3, 4, 5] rfl) (ci := 2) (q0 := 0) rfl rfl, zw_go (hP.sub (ws' := wP h c st) [0, 1, 2, 3, 4, 5] rfl) (hD.sub (ws' := wP h c st) [0, 1, 2, 3, 4, 5] (by decide) rfl) (hK.sub (tys' := [(c 0, .int), (c 1, .int)]) [0, 1] rfl) (fun _ _ _ => trivial)⟩ rfl rfl hl.1 rfl (lv_room (Nat.le_of_ble_eq_true rfl)) d_P_operate_324 ⟨Nat.le_of_ble_eq_true rfl, Nat.le_of_ble_eq_true rfl⟩) hP hD hS hA [0, 1, 2, 3, 4, 5] [] [0, 1, 2, 3, 4, 5] rfl rfl (by decide) (by decide) (by decide) (fun _ => rfl) (fun r_50 _ H locs hw hP hD hS => ?_)
      subst hw
      refine lv_bipush (v := (6 : Int32)) hx hb d_P_operate_327 (by decide) ?_
      refine lv_iload_n hx hb d_P_operate_329 rfl (lv_at hl 1 rfl) ?_
      refine lv_iload hx hb d_P_operate_330 (lv_at hl 0 rfl) ?_
      refine lv_iadd hx hb d_P_operate_332 ?_
      refine zc_i (w2 := fun u9 => wP h c u9) (va_runV (As := [.int p0, .int (f_windowAbove st), .int (6 : Int32), .int (r_3 + (f_secondOperand st p0))]) (rest := []) ⟨hx, hb, hml, hown, ht⟩ (mt_P_moveWindow l D h c H.size st p0 (f_windowAbove st) (6 : Int32) (r_3 + (f_secondOperand st p0)) (wa_in hW)) (cwV 4 ht (zgV zw_673 zw_675 zs_45 zw_4 zw_676) rfl rfl rfl kd_P_moveWindow ⟨Nat.le_of_ble_eq_true rfl, Nat.le_of_ble_eq_true rfl⟩) ⟨zw_blind zw_tt, va_recv (hK.sub (tys' := [(c 0, .int), (c 1, .int)]) [0, 1] rfl) (hP.sub (ws' := wP h c st) [0, 1, 2, 3, 4, 5] rfl) (ci := 2) (q0 := 0) rfl rfl, zw_go (hP.sub (ws' := wP h c st) [0, 1, 2, 3, 4, 5] rfl) (hD.sub (ws' := wP h c st) [0, 1, 2, 3, 4, 5] (by decide) rfl) (hK.sub (tys' := [(c 0, .int), (c 1, .int)]) [0, 1] rfl) (fun _ _ _ => trivial)⟩ rfl rfl hl.1 rfl (lv_room (Nat.le_of_ble_eq_true rfl)) d_P_operate_333 ⟨Nat.le_of_ble_eq_true rfl, Nat.le_of_ble_eq_true rfl⟩) hP hD hS hA [0, 1, 2, 3, 4, 5] [] [0, 1, 2, 3, 4, 5] rfl rfl (by decide) (by decide) (by decide) (fun _ => rfl) (fun r_51 u_51 H locs hw hP hD hS => ?_)
      obtain ⟨er_51, eu_51⟩ := hw
      exact zl_i (u := u_51) hx hb hr hlocks hS hP hD (⟨by subst er_3; subst er_51; subst eu_51; simp only [f_operate, if_pos c_5, if_neg c_7, if_neg c_9, if_neg c_11, if_neg c_13, if_neg c_15, if_neg c_22, if_neg c_24, if_neg c_26, if_neg c_28, if_neg c_30, if_neg c_32, if_neg c_34, if_neg c_36, if_neg c_38, if_neg c_40, if_neg c_46, if_pos c_49], by subst er_3; subst er_51; subst eu_51; simp only [f_operate, if_pos c_5, if_neg c_7, if_neg c_9, if_neg c_11, if_neg c_13, if_neg c_15, if_neg c_22, if_neg c_24, if_neg c_26, if_neg c_28, if_neg c_30, if_neg c_32, if_neg c_34, if_neg c_36, if_neg c_38, if_neg c_40, if_neg c_46, if_pos c_49]⟩) d_P_operate_336
    refine zsame (g := F0 m 337 ls []) ?_ (fun hd_6 => ?_)
    · refine lv_iconst (v := (2 : Int32)) hx hb d_P_operate_337 (by decide) ?_
      exact zl_i (u := st) hx hb hr hlocks hS hP hD (⟨by subst er_3; simp only [f_operate, if_pos c_5, if_neg c_7, if_neg c_9, if_neg c_11, if_neg c_13, if_neg c_15, if_neg c_22, if_neg c_24, if_neg c_26, if_neg c_28, if_neg c_30, if_neg c_32, if_neg c_34, if_neg c_36, if_neg c_38, if_neg c_40, if_neg c_46, if_neg c_49], by subst er_3; simp only [f_operate, if_pos c_5, if_neg c_7, if_neg c_9, if_neg c_11, if_neg c_13, if_neg c_15, if_neg c_22, if_neg c_24, if_neg c_26, if_neg c_28, if_neg c_30, if_neg c_32, if_neg c_34, if_neg c_36, if_neg c_38, if_neg c_40, if_neg c_46, if_neg c_49]⟩) d_P_operate_338
    by_cases c_52 : (f_op3Of p0) = (44 : Int32)
    · exact lv_tableIn (tgt := 337) hx hb d_P_operate_45 (by rw [c_52]; decide) (by rw [c_52]; decide) (by rw [c_52]; rfl) (by decide) hd_6
    by_cases c_53 : (f_op3Of p0) = (45 : Int32)
    · exact lv_tableIn (tgt := 337) hx hb d_P_operate_45 (by rw [c_53]; decide) (by rw [c_53]; decide) (by rw [c_53]; rfl) (by decide) hd_6
    by_cases c_54 : (f_op3Of p0) = (46 : Int32)
    · exact lv_tableIn (tgt := 337) hx hb d_P_operate_45 (by rw [c_54]; decide) (by rw [c_54]; decide) (by rw [c_54]; rfl) (by decide) hd_6
    by_cases c_55 : (f_op3Of p0) = (47 : Int32)
    · exact lv_tableIn (tgt := 337) hx hb d_P_operate_45 (by rw [c_55]; decide) (by rw [c_55]; decide) (by rw [c_55]; rfl) (by decide) hd_6
    by_cases c_56 : (f_op3Of p0) = (52 : Int32)
    · exact lv_tableIn (tgt := 337) hx hb d_P_operate_45 (by rw [c_56]; decide) (by rw [c_56]; decide) (by rw [c_56]; rfl) (by decide) hd_6
    by_cases c_57 : (f_op3Of p0) = (53 : Int32)
    · exact lv_tableIn (tgt := 337) hx hb d_P_operate_45 (by rw [c_57]; decide) (by rw [c_57]; decide) (by rw [c_57]; rfl) (by decide) hd_6
    by_cases c_58 : (f_op3Of p0) = (54 : Int32)
    · exact lv_tableIn (tgt := 337) hx hb d_P_operate_45 (by rw [c_58]; decide) (by rw [c_58]; decide) (by rw [c_58]; rfl) (by decide) hd_6
    by_cases c_59 : (f_op3Of p0) = (55 : Int32)
    · exact lv_tableIn (tgt := 337) hx hb d_P_operate_45 (by rw [c_59]; decide) (by rw [c_59]; decide) (by rw [c_59]; rfl) (by decide) hd_6
    by_cases c_60 : (f_op3Of p0) = (59 : Int32)
    · exact lv_tableIn (tgt := 337) hx hb d_P_operate_45 (by rw [c_60]; decide) (by rw [c_60]; decide) (by rw [c_60]; rfl) (by decide) hd_6
    exact lv_tableOut (tgt := 337) hx hb d_P_operate_45 (by have := lv_neT c_7 (a := 36) (by decide); have := lv_neT c_9 (a := 37) (by decide); have := lv_neT c_11 (a := 38) (by decide); have := lv_neT c_13 (a := 39) (by decide); have := lv_neT c_15 (a := 40) (by decide); have := lv_neT c_22 (a := 41) (by decide); have := lv_neT c_24 (a := 42) (by decide); have := lv_neT c_26 (a := 43) (by decide); have := lv_neT c_52 (a := 44) (by decide); have := lv_neT c_53 (a := 45) (by decide); have := lv_neT c_54 (a := 46) (by decide); have := lv_neT c_55 (a := 47) (by decide); have := lv_neT c_28 (a := 48) (by decide); have := lv_neT c_30 (a := 49) (by decide); have := lv_neT c_32 (a := 50) (by decide); have := lv_neT c_34 (a := 51) (by decide); have := lv_neT c_56 (a := 52) (by decide); have := lv_neT c_57 (a := 53) (by decide); have := lv_neT c_58 (a := 54) (by decide); have := lv_neT c_59 (a := 55) (by decide); have := lv_neT c_36 (a := 56) (by decide); have := lv_neT c_38 (a := 57) (by decide); have := lv_neT c_40 (a := 58) (by decide); have := lv_neT c_60 (a := 59) (by decide); have := lv_neT c_46 (a := 60) (by decide); have := lv_neT c_49 (a := 61) (by decide); omega) (by decide) hd_6
  refine lv_aload_n hx hb d_P_operate_34 rfl (lv_at hl 3 rfl) ?_
  refine lv_iload_n hx hb d_P_operate_35 rfl (lv_at hl 4 rfl) ?_
  refine lv_iload_n hx hb d_P_operate_36 rfl (lv_at hl 2 rfl) ?_
  refine lv_iload_n hx hb d_P_operate_37 rfl (lv_at hl 1 rfl) ?_
  refine lv_iload hx hb d_P_operate_38 (lv_at hl 0 rfl) ?_
  refine zc_i (w2 := fun u9 => wP h c u9) (va_runV (As := [.int p0, .int (f_op3Of p0), .int r_3, .int (f_secondOperand st p0)]) (rest := []) ⟨hx, hb, hml, hown, ht⟩ (mt_P_reckonInto l D za zk zv h c H.size st p0 (f_op3Of p0) r_3 (f_secondOperand st p0) hW) (cwV 4 ht (zgV zw_582 zw_584 zs_30 zw_4 zw_585) rfl rfl rfl kd_P_reckonInto ⟨Nat.le_of_ble_eq_true rfl, Nat.le_of_ble_eq_true rfl⟩) ⟨zw_blind zz_bl, va_recv (hK.sub (tys' := [(c 0, .int), (c 1, .int)]) [0, 1] rfl) (hP.sub (ws' := wP h c st) [0, 1, 2, 3, 4, 5] rfl) (ci := 2) (q0 := 0) rfl rfl, zw_go (hP.sub (ws' := wP h c st) [0, 1, 2, 3, 4, 5] rfl) (hD.sub (ws' := wP h c st) [0, 1, 2, 3, 4, 5] (by decide) rfl) (hK.sub (tys' := [(c 0, .int), (c 1, .int)]) [0, 1] rfl) (fun U hU hW => zz_go hZ hS (va_free (wc := wP h c st) hD hS hA [0, 1, 2, 3, 4, 5] rfl) hU hW)⟩ rfl rfl hl.1 rfl (lv_room (Nat.le_of_ble_eq_true rfl)) d_P_operate_40 ⟨Nat.le_of_ble_eq_true rfl, Nat.le_of_ble_eq_true rfl⟩) hP hD hS hA [0, 1, 2, 3, 4, 5] [] [0, 1, 2, 3, 4, 5] rfl rfl (by decide) (by decide) (by decide) (fun _ => rfl) (fun r_61 u_61 H locs hw hP hD hS => ?_)
  obtain ⟨er_61, eu_61⟩ := hw
  exact zl_i (u := u_61) hx hb hr hlocks hS hP hD (⟨by subst er_3; subst er_61; subst eu_61; simp only [f_operate, if_neg c_5], by subst er_3; subst er_61; subst eu_61; simp only [f_operate, if_neg c_5]⟩) d_P_operate_43
