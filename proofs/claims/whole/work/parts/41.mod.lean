theorem d_D_low_0 : decode c_D_low 0 = .ok (.iload_n 1, 1) := by decide +kernel
theorem d_D_low_1 : decode c_D_low 1 = .ok (.bipush 22, 2) := by decide +kernel
theorem d_D_low_3 : decode c_D_low 3 = .ok (.ishr, 1) := by decide +kernel
theorem d_D_low_4 : decode c_D_low 4 = .ok (.bipush 7, 2) := by decide +kernel
theorem d_D_low_6 : decode c_D_low 6 = .ok (.iand, 1) := by decide +kernel
theorem d_D_low_7 : decode c_D_low 7 = .ok (.istore_n 2, 1) := by decide +kernel
theorem d_D_low_8 : decode c_D_low 8 = .ok (.iload_n 1, 1) := by decide +kernel
theorem d_D_low_9 : decode c_D_low 9 = .ok (.bipush 25, 2) := by decide +kernel
theorem d_D_low_11 : decode c_D_low 11 = .ok (.ishr, 1) := by decide +kernel
theorem d_D_low_12 : decode c_D_low 12 = .ok (.bipush 31, 2) := by decide +kernel
theorem d_D_low_14 : decode c_D_low 14 = .ok (.iand, 1) := by decide +kernel
theorem d_D_low_15 : decode c_D_low 15 = .ok (.istore_n 3, 1) := by decide +kernel
theorem d_D_low_16 : decode c_D_low 16 = .ok (.iload_n 2, 1) := by decide +kernel
theorem d_D_low_17 : decode c_D_low 17 = .ok (.iconst 4, 1) := by decide +kernel
theorem d_D_low_18 : decode c_D_low 18 = .ok (.if_icmp .ne 19, 3) := by decide +kernel
theorem d_D_low_21 : decode c_D_low 21 = .ok (.aload_n 0, 1) := by decide +kernel
theorem d_D_low_22 : decode c_D_low 22 = .ok (.iload_n 3, 1) := by decide +kernel
theorem d_D_low_23 : decode c_D_low 23 = .ok (.aload_n 0, 1) := by decide +kernel
theorem d_D_low_24 : decode c_D_low 24 = .ok (.getfield 237, 3) := by decide +kernel
theorem d_D_low_27 : decode c_D_low 27 = .ok (.iload_n 1, 1) := by decide +kernel
theorem d_D_low_28 : decode c_D_low 28 = .ok (.bipush 10, 2) := by decide +kernel
theorem d_D_low_30 : decode c_D_low 30 = .ok (.ishl, 1) := by decide +kernel
theorem d_D_low_31 : decode c_D_low 31 = .ok (.invokevirtual 309, 3) := by decide +kernel
theorem d_D_low_34 : decode c_D_low 34 = .ok (.goto 21, 3) := by decide +kernel
theorem d_D_low_37 : decode c_D_low 37 = .ok (.iload_n 2, 1) := by decide +kernel
theorem d_D_low_38 : decode c_D_low 38 = .ok (.iconst 2, 1) := by decide +kernel
theorem d_D_low_39 : decode c_D_low 39 = .ok (.if_icmp .ne 11, 3) := by decide +kernel
theorem d_D_low_42 : decode c_D_low 42 = .ok (.aload_n 0, 1) := by decide +kernel
theorem d_D_low_43 : decode c_D_low 43 = .ok (.iload_n 1, 1) := by decide +kernel
theorem d_D_low_44 : decode c_D_low 44 = .ok (.invokevirtual 323, 3) := by decide +kernel
theorem d_D_low_47 : decode c_D_low 47 = .ok (.goto 8, 3) := by decide +kernel
theorem d_D_low_50 : decode c_D_low 50 = .ok (.aload_n 0, 1) := by decide +kernel
theorem d_D_low_51 : decode c_D_low 51 = .ok (.iconst 2, 1) := by decide +kernel
theorem d_D_low_52 : decode c_D_low 52 = .ok (.putfield 312, 3) := by decide +kernel
theorem d_D_low_55 : decode c_D_low 55 = .ok (.return_, 1) := by decide +kernel
theorem kd_D_low : (y_D_low).cls = "WindowMachineModel" ∧ (y_D_low).cls ≠ "java/lang/invoke/MethodHandle" ∧ (y_D_low).cls ≠ "java/lang/invoke/VarHandle" ∧ (parseMethodDescriptor (y_D_low).desc).map (fun d => d.parameters.length) = some 1 := by decide +kernel
def m_low (st : SD) (p0 : Int32) : SD := (let x_1 := (p0 >>> ((22 : Int32) &&& 31)) &&& (7 : Int32); (let x_2 := (p0 >>> ((25 : Int32) &&& 31)) &&& (31 : Int32); (let u_3 := (if x_1 = (4 : Int32) then m_gives st x_2 (st.1 6) (p0 <<< ((10 : Int32) &&& 31)) else (if x_1 = (2 : Int32) then m_branch st p0 else (upd st.1 21 (2 : Int32), st.2.1, st.2.2.1, st.2.2.2.1, st.2.2.2.2.1, st.2.2.2.2.2))); u_3)))
set_option maxHeartbeats 4000000 in
set_option maxRecDepth 100000 in
theorem mt_D_low (l : Launch) (D : va_G) (h : Nat → Nat) (c : Nat → ClassId) (sz : Nat) (st : SD) (p0 : Int32) (hV : okV st) : Met l y_D_low w_D_low ({ frames := 2, cells := 0, slots := 0, locals := 47 }) (va_Pc [.ref (h 20), .int p0] (zw_pre D vwCl [(c 21, .long), (c 22, .int), (c 23, .int), (c 24, .int), (c 25, .int), (c 26, .int), (c 27, .int), (c 28, .int)] sz (wD h c st) (fun _ => True))) (va_Qv (fun (u : SD) => u = m_low st p0) (fun u t => zw_at D vwCl (va_A (wD h c st) sz) ((fun (u : SD) => wD h c u) u) t) (va_A (wD h c st) sz)) 0 0 (va_A (wD h c st) sz) := by
  refine zm (Qf := fun A => va_Qv (fun (u : SD) => u = m_low st p0) (fun u t => zw_at D vwCl A ((fun (u : SD) => wD h c u) u) t) A) (Zf := fun _ _ => True) (cc := c_D_low) (nL := 4) (ret := none) (by decide) rfl (Nat.le_of_ble_eq_true rfl) ?_
  intro p e s m below meth c9 A H locs ls hx hb hml hown hts hr hlocks hA hK hP hD hS hZ hl
  have hl : lv_has ls 4 [(0, .ref (h 20)), (1, .int p0)] := hl
  have ht : ∀ w9 ∈ zT, w9.before _ s = true := fun w9 h9 => hts w9 (List.mem_cons_of_mem _ h9)
  refine lv_iload_n hx hb d_D_low_0 rfl (lv_at hl 1 rfl) ?_
  refine lv_bipush (v := (22 : Int32)) hx hb d_D_low_1 (by decide) ?_
  refine lv_ishr hx hb d_D_low_3 ?_
  refine lv_bipush (v := (7 : Int32)) hx hb d_D_low_4 (by decide) ?_
  refine lv_iand hx hb d_D_low_6 ?_
  refine lv_topi (fun x_1 ex_1 => ?_)
  refine lv_istore_n (lv' := [(2, .int x_1), (0, .ref (h 20)), (1, .int p0)]) hx hb d_D_low_7 rfl hl (by decide) rfl (fun ls hl => ?_)
  refine lv_iload_n hx hb d_D_low_8 rfl (lv_at hl 2 rfl) ?_
  refine lv_bipush (v := (25 : Int32)) hx hb d_D_low_9 (by decide) ?_
  refine lv_ishr hx hb d_D_low_11 ?_
  refine lv_bipush (v := (31 : Int32)) hx hb d_D_low_12 (by decide) ?_
  refine lv_iand hx hb d_D_low_14 ?_
  refine lv_topi (fun x_2 ex_2 => ?_)
  refine lv_istore_n (lv' := [(3, .int x_2), (2, .int x_1), (0, .ref (h 20)), (1, .int p0)]) hx hb d_D_low_15 rfl hl (by decide) rfl (fun ls hl => ?_)
  refine lv_iload_n hx hb d_D_low_16 rfl (lv_at hl 1 rfl) ?_
  refine lv_iconst (v := (4 : Int32)) hx hb d_D_low_17 (by decide) ?_
  refine zcut (X := SD) (G := fun v9 H locs ls => v9 = (if x_1 = (4 : Int32) then m_gives st x_2 (st.1 6) (p0 <<< ((10 : Int32) &&& 31)) else (if x_1 = (2 : Int32) then m_branch st p0 else (upd st.1 21 (2 : Int32), st.2.1, st.2.2.1, st.2.2.2.1, st.2.2.2.2.1, st.2.2.2.2.2))) ∧ va_P D vwCl (wD h c v9) H ∧ va_D A (wD h c v9) ∧ va_S A s.heap H locs ∧ lv_has ls 4 [(0, .ref (h 20)), (1, .int p0), (2, .int x_1), (3, .int x_2)]) (fr := fun v9 ls => F0 m 55 ls []) (fun J_4 => ?_) (fun v9 H locs ls hG => ?_)
  · refine lv_icmp_ne (tgt := 37) hx hb d_D_low_18 (by decide) (fun c_5 => ?_) (fun c_5 => ?_)
    · refine lv_iload_n hx hb d_D_low_37 rfl (lv_at hl 1 rfl) ?_
      refine lv_iconst (v := (2 : Int32)) hx hb d_D_low_38 (by decide) ?_
      refine lv_icmp_ne (tgt := 50) hx hb d_D_low_39 (by decide) (fun c_6 => ?_) (fun c_6 => ?_)
      · refine lv_aload_n hx hb d_D_low_50 rfl (lv_at hl 2 rfl) ?_
        refine lv_iconst (v := (2 : Int32)) hx hb d_D_low_51 (by decide) ?_
        refine va_put (D := D) (ci := 6) (v := .int (2 : Int32)) (ty := .int) (C := "WindowMachineModel") (T := T_D) (N := 31) hx hb ht zi_D ty_D tyok_D nm_D hown hK hP hD hS 0 rfl rfl 29 (by decide) (ht _ zw_883) (fun _ h9 => h9) rfl (by decide +kernel) rfl rfl (Nat.le_of_ble_eq_true rfl) d_D_low_52 (fun H locs hP hD hS => ?_)
        have hP : va_P D vwCl (wD h c (upd st.1 21 (2 : Int32), st.2.1, st.2.2.1, st.2.2.2.1, st.2.2.2.2.1, st.2.2.2.2.2)) H := hP
        have hD : va_D A (wD h c (upd st.1 21 (2 : Int32), st.2.1, st.2.2.1, st.2.2.2.1, st.2.2.2.2.1, st.2.2.2.2.2)) := hD
        exact J_4 (upd st.1 21 (2 : Int32), st.2.1, st.2.2.1, st.2.2.2.1, st.2.2.2.2.1, st.2.2.2.2.2) _ _ _ ⟨by simp only [if_neg c_5, if_neg c_6], hP, hD, hS, (lv_sub hl [2, 3, 1, 0] rfl)⟩
      refine lv_aload_n hx hb d_D_low_42 rfl (lv_at hl 2 rfl) ?_
      refine lv_iload_n hx hb d_D_low_43 rfl (lv_at hl 3 rfl) ?_
      refine zc_v (w2 := fun u9 => wD h c u9) (va_runV (As := [.int p0]) (rest := []) ⟨hx, hb, hml, hown, ht⟩ (mt_D_branch l D h c H.size st p0) (cwV 1 ht (zgV zw_1015 zw_1017 zs_61 zw_7 zw_1018) rfl rfl rfl kd_D_branch ⟨Nat.le_of_ble_eq_true rfl, Nat.le_of_ble_eq_true rfl⟩) ⟨zw_blind zw_tt, va_recv (hK.sub (tys' := [(c 21, .long), (c 22, .int), (c 23, .int), (c 24, .int), (c 25, .int), (c 26, .int), (c 27, .int), (c 28, .int)]) [0, 1, 2, 3, 4, 5, 6, 7] rfl) (hP.sub (ws' := wD h c st) [0, 1, 2, 3, 4, 5, 6, 7, 8] rfl) (ci := 6) (q0 := 0) rfl rfl, zw_go (hP.sub (ws' := wD h c st) [0, 1, 2, 3, 4, 5, 6, 7, 8] rfl) (hD.sub (ws' := wD h c st) [0, 1, 2, 3, 4, 5, 6, 7, 8] (by decide) rfl) (hK.sub (tys' := [(c 21, .long), (c 22, .int), (c 23, .int), (c 24, .int), (c 25, .int), (c 26, .int), (c 27, .int), (c 28, .int)]) [0, 1, 2, 3, 4, 5, 6, 7] rfl) (fun _ _ _ => trivial)⟩ rfl rfl hl.1 rfl (lv_room (Nat.le_of_ble_eq_true rfl)) d_D_low_44 ⟨Nat.le_of_ble_eq_true rfl, Nat.le_of_ble_eq_true rfl⟩) hP hD hS hA [0, 1, 2, 3, 4, 5, 6, 7, 8] [] [0, 1, 2, 3, 4, 5, 6, 7, 8] rfl rfl (by decide) (by decide) (by decide) (fun _ => rfl) (fun u_7 H locs hw hP hD hS => ?_)
      subst hw
      refine lv_goto (tgt := 55) hx hb d_D_low_47 (by decide) ?_
      exact J_4 (m_branch st p0) _ _ _ ⟨by simp only [if_neg c_5, if_pos c_6], hP, hD, hS, (lv_sub hl [2, 3, 1, 0] rfl)⟩
    refine lv_aload_n hx hb d_D_low_21 rfl (lv_at hl 2 rfl) ?_
    refine lv_iload_n hx hb d_D_low_22 rfl (lv_at hl 0 rfl) ?_
    refine lv_aload_n hx hb d_D_low_23 rfl (lv_at hl 2 rfl) ?_
    refine va_get (D := D) (ci := 6) (v := .int (st.1 6)) (C := "WindowMachineModel") (T := T_D) (N := 31) hx hb ht zi_D hown hK hP 0 rfl rfl 14 (by decide) (ht _ zw_868) (fun _ h9 => h9) rfl d_D_low_24 ?_
    refine lv_iload_n hx hb d_D_low_27 rfl (lv_at hl 3 rfl) ?_
    refine lv_bipush (v := (10 : Int32)) hx hb d_D_low_28 (by decide) ?_
    refine lv_ishl hx hb d_D_low_30 ?_
    refine zc_v (w2 := fun u9 => wD h c u9) (va_runV (As := [.int x_2, .int (st.1 6), .int (p0 <<< ((10 : Int32) &&& 31))]) (rest := []) ⟨hx, hb, hml, hown, ht⟩ (mt_D_gives l D h c H.size st x_2 (st.1 6) (p0 <<< ((10 : Int32) &&& 31)) (bx_in ex_2) (hV).1) (cwV 3 ht (zgV zw_990 zw_992 zs_57 zw_7 zw_993) rfl rfl rfl kd_D_gives ⟨Nat.le_of_ble_eq_true rfl, Nat.le_of_ble_eq_true rfl⟩) ⟨zw_blind zw_tt, va_recv (hK.sub (tys' := [(c 21, .long), (c 22, .int), (c 23, .int), (c 24, .int), (c 25, .int), (c 26, .int), (c 27, .int), (c 28, .int)]) [0, 1, 2, 3, 4, 5, 6, 7] rfl) (hP.sub (ws' := wD h c st) [0, 1, 2, 3, 4, 5, 6, 7, 8] rfl) (ci := 6) (q0 := 0) rfl rfl, zw_go (hP.sub (ws' := wD h c st) [0, 1, 2, 3, 4, 5, 6, 7, 8] rfl) (hD.sub (ws' := wD h c st) [0, 1, 2, 3, 4, 5, 6, 7, 8] (by decide) rfl) (hK.sub (tys' := [(c 21, .long), (c 22, .int), (c 23, .int), (c 24, .int), (c 25, .int), (c 26, .int), (c 27, .int), (c 28, .int)]) [0, 1, 2, 3, 4, 5, 6, 7] rfl) (fun _ _ _ => trivial)⟩ rfl rfl hl.1 rfl (lv_room (Nat.le_of_ble_eq_true rfl)) d_D_low_31 ⟨Nat.le_of_ble_eq_true rfl, Nat.le_of_ble_eq_true rfl⟩) hP hD hS hA [0, 1, 2, 3, 4, 5, 6, 7, 8] [] [0, 1, 2, 3, 4, 5, 6, 7, 8] rfl rfl (by decide) (by decide) (by decide) (fun _ => rfl) (fun u_8 H locs hw hP hD hS => ?_)
    subst hw
    refine lv_goto (tgt := 55) hx hb d_D_low_34 (by decide) ?_
    exact J_4 (m_gives st x_2 (st.1 6) (p0 <<< ((10 : Int32) &&& 31))) _ _ _ ⟨by simp only [if_pos c_5], hP, hD, hS, (lv_sub hl [2, 3, 1, 0] rfl)⟩
  obtain ⟨u_3, rfl⟩ : ∃ z, z = v9 := ⟨_, rfl⟩
  obtain ⟨eu_3, hP, hD, hS, hl⟩ := hG
  have ok_3 : okV u_3 := by rw [eu_3]; exact (okV_iteD (fun c_3 => (ov_gives hV)) (fun c_3 => (okV_iteD (fun c_4 => (ov_branch hV)) (fun c_4 => hV))))
  exact zl_v (u := u_3) hx hb hr hlocks hS hP hD (by simp only [m_low, ← ex_1, ← ex_2, ← eu_3]) d_D_low_55
