theorem d_D_branches_0 : decode c_D_branches 0 = .ok (.aload_n 0, 1) := by decide +kernel
theorem d_D_branches_1 : decode c_D_branches 1 = .ok (.ldc2_w 458, 3) := by decide +kernel
theorem d_D_branches_4 : decode c_D_branches 4 = .ok (.ldc2_w 460, 3) := by decide +kernel
theorem d_D_branches_7 : decode c_D_branches 7 = .ok (.invokevirtual 442, 3) := by decide +kernel
theorem d_D_branches_10 : decode c_D_branches 10 = .ok (.istore_n 2, 1) := by decide +kernel
theorem d_D_branches_11 : decode c_D_branches 11 = .ok (.iconst 0, 1) := by decide +kernel
theorem d_D_branches_12 : decode c_D_branches 12 = .ok (.istore_n 3, 1) := by decide +kernel
theorem d_D_branches_13 : decode c_D_branches 13 = .ok (.aload_n 0, 1) := by decide +kernel
theorem d_D_branches_14 : decode c_D_branches 14 = .ok (.getfield 202, 3) := by decide +kernel
theorem d_D_branches_17 : decode c_D_branches 17 = .ok (.ifCond .ge 35, 3) := by decide +kernel
theorem d_D_branches_20 : decode c_D_branches 20 = .ok (.aload_n 0, 1) := by decide +kernel
theorem d_D_branches_21 : decode c_D_branches 21 = .ok (.getfield 413, 3) := by decide +kernel
theorem d_D_branches_24 : decode c_D_branches 24 = .ok (.aload_n 0, 1) := by decide +kernel
theorem d_D_branches_25 : decode c_D_branches 25 = .ok (.getfield 410, 3) := by decide +kernel
theorem d_D_branches_28 : decode c_D_branches 28 = .ok (.if_icmp .ge 24, 3) := by decide +kernel
theorem d_D_branches_31 : decode c_D_branches 31 = .ok (.aload_n 0, 1) := by decide +kernel
theorem d_D_branches_32 : decode c_D_branches 32 = .ok (.bipush 44, 2) := by decide +kernel
theorem d_D_branches_34 : decode c_D_branches 34 = .ok (.invokevirtual 426, 3) := by decide +kernel
theorem d_D_branches_37 : decode c_D_branches 37 = .ok (.aload_n 0, 1) := by decide +kernel
theorem d_D_branches_38 : decode c_D_branches 38 = .ok (.getfield 202, 3) := by decide +kernel
theorem d_D_branches_41 : decode c_D_branches 41 = .ok (.ifCond .ge 9, 3) := by decide +kernel
theorem d_D_branches_44 : decode c_D_branches 44 = .ok (.aload_n 0, 1) := by decide +kernel
theorem d_D_branches_45 : decode c_D_branches 45 = .ok (.bipush 97, 2) := by decide +kernel
theorem d_D_branches_47 : decode c_D_branches 47 = .ok (.invokevirtual 426, 3) := by decide +kernel
theorem d_D_branches_50 : decode c_D_branches 50 = .ok (.iconst 1, 1) := by decide +kernel
theorem d_D_branches_51 : decode c_D_branches 51 = .ok (.istore_n 3, 1) := by decide +kernel
theorem d_D_branches_52 : decode c_D_branches 52 = .ok (.iload_n 3, 1) := by decide +kernel
theorem d_D_branches_53 : decode c_D_branches 53 = .ok (.bipush 29, 2) := by decide +kernel
theorem d_D_branches_55 : decode c_D_branches 55 = .ok (.ishl, 1) := by decide +kernel
theorem d_D_branches_56 : decode c_D_branches 56 = .ok (.iload_n 1, 1) := by decide +kernel
theorem d_D_branches_57 : decode c_D_branches 57 = .ok (.bipush 25, 2) := by decide +kernel
theorem d_D_branches_59 : decode c_D_branches 59 = .ok (.ishl, 1) := by decide +kernel
theorem d_D_branches_60 : decode c_D_branches 60 = .ok (.ior, 1) := by decide +kernel
theorem d_D_branches_61 : decode c_D_branches 61 = .ok (.ldc_w 462, 3) := by decide +kernel
theorem d_D_branches_64 : decode c_D_branches 64 = .ok (.ior, 1) := by decide +kernel
theorem d_D_branches_65 : decode c_D_branches 65 = .ok (.iload_n 2, 1) := by decide +kernel
theorem d_D_branches_66 : decode c_D_branches 66 = .ok (.ldc_w 463, 3) := by decide +kernel
theorem d_D_branches_69 : decode c_D_branches 69 = .ok (.iand, 1) := by decide +kernel
theorem d_D_branches_70 : decode c_D_branches 70 = .ok (.ior, 1) := by decide +kernel
theorem d_D_branches_71 : decode c_D_branches 71 = .ok (.ireturn, 1) := by decide +kernel
theorem kd_D_branches : (y_D_branches).cls = "WindowMachineModel" ∧ (y_D_branches).cls ≠ "java/lang/invoke/MethodHandle" ∧ (y_D_branches).cls ≠ "java/lang/invoke/VarHandle" ∧ (parseMethodDescriptor (y_D_branches).desc).map (fun d => d.parameters.length) = some 1 := by decide +kernel
def m_branches (st : SD) (p0 : Int32) : Int32 × SD := (let r_1 := (m_number st (-2097152 : Int64) (2097151 : Int64)).1; (let u_1 := (m_number st (-2097152 : Int64) (2097151 : Int64)).2; (if (0 : Int32) ≤ (u_1.1 2) then (((((0 : Int32) <<< ((29 : Int32) &&& 31)) ||| (p0 <<< ((25 : Int32) &&& 31))) ||| (8388608 : Int32)) ||| (r_1 &&& (4194303 : Int32)), u_1) else (if (u_1.1 1) ≤ (u_1.1 3) then (((((0 : Int32) <<< ((29 : Int32) &&& 31)) ||| (p0 <<< ((25 : Int32) &&& 31))) ||| (8388608 : Int32)) ||| (r_1 &&& (4194303 : Int32)), u_1) else (let u_4 := m_must u_1 (44 : Int32); (if (0 : Int32) ≤ (u_4.1 2) then (((((1 : Int32) <<< ((29 : Int32) &&& 31)) ||| (p0 <<< ((25 : Int32) &&& 31))) ||| (8388608 : Int32)) ||| (r_1 &&& (4194303 : Int32)), u_4) else (let u_6 := m_must u_4 (97 : Int32); (((((1 : Int32) <<< ((29 : Int32) &&& 31)) ||| (p0 <<< ((25 : Int32) &&& 31))) ||| (8388608 : Int32)) ||| (r_1 &&& (4194303 : Int32)), u_6))))))))
set_option maxHeartbeats 4000000 in
set_option maxRecDepth 100000 in
theorem mt_D_branches (l : Launch) (D : va_G) (h : Nat → Nat) (c : Nat → ClassId) (sz : Nat) (st : SD) (p0 : Int32) (k9 : Nat) (hk : k9 < 500) (hL : okL k9 st) : Met l y_D_branches w_D_branches ({ frames := 3, cells := 0, slots := 0, locals := 74 }) (va_Pc [.ref (h 20), .int p0] (zw_pre D vwCl [(c 21, .long), (c 22, .int), (c 23, .int), (c 24, .int), (c 25, .int), (c 26, .int), (c 27, .int), (c 28, .int)] sz (wD h c st) (fun _ => True))) (va_Qi (fun r (u : SD) => r = (m_branches st p0).1 ∧ u = (m_branches st p0).2) (fun u t => zw_at D vwCl (va_A (wD h c st) sz) ((fun (u : SD) => wD h c u) u) t) (va_A (wD h c st) sz)) 0 0 (va_A (wD h c st) sz) := by
  refine zm (Qf := fun A => va_Qi (fun r (u : SD) => r = (m_branches st p0).1 ∧ u = (m_branches st p0).2) (fun u t => zw_at D vwCl A ((fun (u : SD) => wD h c u) u) t) A) (Zf := fun _ _ => True) (cc := c_D_branches) (nL := 4) (ret := (some .int)) (by decide) rfl (Nat.le_of_ble_eq_true rfl) ?_
  intro p e s m below meth c9 A H locs ls hx hb hml hown hts hr hlocks hA hK hP hD hS hZ hl
  have hl : lv_has ls 4 [(0, .ref (h 20)), (1, .int p0)] := hl
  have ht : ∀ w9 ∈ zT, w9.before _ s = true := fun w9 h9 => hts w9 (List.mem_cons_of_mem _ h9)
  refine lv_aload_n hx hb d_D_branches_0 rfl (lv_at hl 0 rfl) ?_
  refine lv_ldc2 (v := (-2097152 : Int64)) hx hb hown (ht _ zw_1159) d_D_branches_1 ?_
  refine lv_ldc2 (v := (2097151 : Int64)) hx hb hown (ht _ zw_1160) d_D_branches_4 ?_
  refine zc_i (w2 := fun u9 => wD h c u9) (va_runV (As := [.long (-2097152 : Int64), .long (2097151 : Int64)]) (rest := []) ⟨hx, hb, hml, hown, ht⟩ (mt_D_number l D h c H.size st (-2097152 : Int64) (2097151 : Int64) _ (by omega) hL) (cwV 2 ht (zgV zw_1127 zw_1129 zs_78 zw_7 zw_1130) rfl rfl rfl kd_D_number ⟨Nat.le_of_ble_eq_true rfl, Nat.le_of_ble_eq_true rfl⟩) ⟨zw_blind zw_tt, va_recv (hK.sub (tys' := [(c 21, .long), (c 22, .int), (c 23, .int), (c 24, .int), (c 25, .int), (c 26, .int), (c 27, .int), (c 28, .int)]) [0, 1, 2, 3, 4, 5, 6, 7] rfl) (hP.sub (ws' := wD h c st) [0, 1, 2, 3, 4, 5, 6, 7, 8] rfl) (ci := 6) (q0 := 0) rfl rfl, zw_go (hP.sub (ws' := wD h c st) [0, 1, 2, 3, 4, 5, 6, 7, 8] rfl) (hD.sub (ws' := wD h c st) [0, 1, 2, 3, 4, 5, 6, 7, 8] (by decide) rfl) (hK.sub (tys' := [(c 21, .long), (c 22, .int), (c 23, .int), (c 24, .int), (c 25, .int), (c 26, .int), (c 27, .int), (c 28, .int)]) [0, 1, 2, 3, 4, 5, 6, 7] rfl) (fun _ _ _ => trivial)⟩ rfl rfl hl.1 rfl (lv_room (Nat.le_of_ble_eq_true rfl)) d_D_branches_7 ⟨Nat.le_of_ble_eq_true rfl, Nat.le_of_ble_eq_true rfl⟩) hP hD hS hA [0, 1, 2, 3, 4, 5, 6, 7, 8] [] [0, 1, 2, 3, 4, 5, 6, 7, 8] rfl rfl (by decide) (by decide) (by decide) (fun _ => rfl) (fun r_1 u_1 H locs hw hP hD hS => ?_)
  obtain ⟨er_1, eu_1⟩ := hw
  have ok_1 : okL (k9 + 13) u_1 := by rw [eu_1]; exact (ol_number (by omega) hL)
  refine lv_istore_n (lv' := [(2, .int r_1), (0, .ref (h 20)), (1, .int p0)]) hx hb d_D_branches_10 rfl hl (by decide) rfl (fun ls hl => ?_)
  refine lv_iconst (v := (0 : Int32)) hx hb d_D_branches_11 (by decide) ?_
  refine lv_istore_n (lv' := [(3, .int (0 : Int32)), (2, .int r_1), (0, .ref (h 20)), (1, .int p0)]) hx hb d_D_branches_12 rfl hl (by decide) rfl (fun ls hl => ?_)
  refine lv_aload_n hx hb d_D_branches_13 rfl (lv_at hl 2 rfl) ?_
  refine va_get (D := D) (ci := 6) (v := .int (u_1.1 2)) (C := "WindowMachineModel") (T := T_D) (N := 31) hx hb ht zi_D hown hK hP 0 rfl rfl 5 (by decide) (ht _ zw_859) (fun _ h9 => h9) rfl d_D_branches_14 ?_
  refine lv_if_ge (tgt := 52) hx hb d_D_branches_17 (by decide) (fun c_2 => ?_) (fun c_2 => ?_)
  · refine lv_iload_n hx hb d_D_branches_52 rfl (lv_at hl 0 rfl) ?_
    refine lv_bipush (v := (29 : Int32)) hx hb d_D_branches_53 (by decide) ?_
    refine lv_ishl hx hb d_D_branches_55 ?_
    refine lv_iload_n hx hb d_D_branches_56 rfl (lv_at hl 3 rfl) ?_
    refine lv_bipush (v := (25 : Int32)) hx hb d_D_branches_57 (by decide) ?_
    refine lv_ishl hx hb d_D_branches_59 ?_
    refine lv_ior hx hb d_D_branches_60 ?_
    refine lv_ldcw (v := (8388608 : Int32)) hx hb hown (ht _ zw_1161) d_D_branches_61 ?_
    refine lv_ior hx hb d_D_branches_64 ?_
    refine lv_iload_n hx hb d_D_branches_65 rfl (lv_at hl 1 rfl) ?_
    refine lv_ldcw (v := (4194303 : Int32)) hx hb hown (ht _ zw_1162) d_D_branches_66 ?_
    refine lv_iand hx hb d_D_branches_69 ?_
    refine lv_ior hx hb d_D_branches_70 ?_
    exact zl_i (u := u_1) hx hb hr hlocks hS hP hD (⟨by simp only [m_branches, ← er_1, ← eu_1]; try simp only [if_pos c_2], by simp only [m_branches, ← er_1, ← eu_1]; try simp only [if_pos c_2]⟩) d_D_branches_71
  refine lv_aload_n hx hb d_D_branches_20 rfl (lv_at hl 2 rfl) ?_
  refine va_get (D := D) (ci := 6) (v := .int (u_1.1 3)) (C := "WindowMachineModel") (T := T_D) (N := 31) hx hb ht zi_D hown hK hP 0 rfl rfl 6 (by decide) (ht _ zw_860) (fun _ h9 => h9) rfl d_D_branches_21 ?_
  refine lv_aload_n hx hb d_D_branches_24 rfl (lv_at hl 2 rfl) ?_
  refine va_get (D := D) (ci := 6) (v := .int (u_1.1 1)) (C := "WindowMachineModel") (T := T_D) (N := 31) hx hb ht zi_D hown hK hP 0 rfl rfl 4 (by decide) (ht _ zw_858) (fun _ h9 => h9) rfl d_D_branches_25 ?_
  refine lv_icmp_ge (tgt := 52) hx hb d_D_branches_28 (by decide) (fun c_3 => ?_) (fun c_3 => ?_)
  · refine lv_iload_n hx hb d_D_branches_52 rfl (lv_at hl 0 rfl) ?_
    refine lv_bipush (v := (29 : Int32)) hx hb d_D_branches_53 (by decide) ?_
    refine lv_ishl hx hb d_D_branches_55 ?_
    refine lv_iload_n hx hb d_D_branches_56 rfl (lv_at hl 3 rfl) ?_
    refine lv_bipush (v := (25 : Int32)) hx hb d_D_branches_57 (by decide) ?_
    refine lv_ishl hx hb d_D_branches_59 ?_
    refine lv_ior hx hb d_D_branches_60 ?_
    refine lv_ldcw (v := (8388608 : Int32)) hx hb hown (ht _ zw_1161) d_D_branches_61 ?_
    refine lv_ior hx hb d_D_branches_64 ?_
    refine lv_iload_n hx hb d_D_branches_65 rfl (lv_at hl 1 rfl) ?_
    refine lv_ldcw (v := (4194303 : Int32)) hx hb hown (ht _ zw_1162) d_D_branches_66 ?_
    refine lv_iand hx hb d_D_branches_69 ?_
    refine lv_ior hx hb d_D_branches_70 ?_
    exact zl_i (u := u_1) hx hb hr hlocks hS hP hD (⟨by simp only [m_branches, ← er_1, ← eu_1]; try simp only [if_neg c_2, if_pos c_3], by simp only [m_branches, ← er_1, ← eu_1]; try simp only [if_neg c_2, if_pos c_3]⟩) d_D_branches_71
  refine lv_aload_n hx hb d_D_branches_31 rfl (lv_at hl 2 rfl) ?_
  refine lv_bipush (v := (44 : Int32)) hx hb d_D_branches_32 (by decide) ?_
  refine zc_v (w2 := fun u9 => wD h c u9) (va_runV (As := [.int (44 : Int32)]) (rest := []) ⟨hx, hb, hml, hown, ht⟩ (mt_D_must l D h c H.size u_1 (44 : Int32) (olh ok_1)) (cwV 1 ht (zgV zw_1118 zw_1120 zs_76 zw_7 zw_1121) rfl rfl rfl kd_D_must ⟨Nat.le_of_ble_eq_true rfl, Nat.le_of_ble_eq_true rfl⟩) ⟨zw_blind zw_tt, va_recv (hK.sub (tys' := [(c 21, .long), (c 22, .int), (c 23, .int), (c 24, .int), (c 25, .int), (c 26, .int), (c 27, .int), (c 28, .int)]) [0, 1, 2, 3, 4, 5, 6, 7] rfl) (hP.sub (ws' := wD h c u_1) [0, 1, 2, 3, 4, 5, 6, 7, 8] rfl) (ci := 6) (q0 := 0) rfl rfl, zw_go (hP.sub (ws' := wD h c u_1) [0, 1, 2, 3, 4, 5, 6, 7, 8] rfl) (hD.sub (ws' := wD h c u_1) [0, 1, 2, 3, 4, 5, 6, 7, 8] (by decide) rfl) (hK.sub (tys' := [(c 21, .long), (c 22, .int), (c 23, .int), (c 24, .int), (c 25, .int), (c 26, .int), (c 27, .int), (c 28, .int)]) [0, 1, 2, 3, 4, 5, 6, 7] rfl) (fun _ _ _ => trivial)⟩ rfl rfl hl.1 rfl (lv_room (Nat.le_of_ble_eq_true rfl)) d_D_branches_34 ⟨Nat.le_of_ble_eq_true rfl, Nat.le_of_ble_eq_true rfl⟩) hP hD hS hA [0, 1, 2, 3, 4, 5, 6, 7, 8] [] [0, 1, 2, 3, 4, 5, 6, 7, 8] rfl rfl (by decide) (by decide) (by decide) (fun _ => rfl) (fun u_4 H locs hw hP hD hS => ?_)
  have eu_4 := hw
  have ok_4 : okL (k9 + 14) u_4 := by rw [eu_4]; exact (ol_must (by omega) ok_1)
  refine lv_aload_n hx hb d_D_branches_37 rfl (lv_at hl 2 rfl) ?_
  refine va_get (D := D) (ci := 6) (v := .int (u_4.1 2)) (C := "WindowMachineModel") (T := T_D) (N := 31) hx hb ht zi_D hown hK hP 0 rfl rfl 5 (by decide) (ht _ zw_859) (fun _ h9 => h9) rfl d_D_branches_38 ?_
  refine lv_if_ge (tgt := 50) hx hb d_D_branches_41 (by decide) (fun c_5 => ?_) (fun c_5 => ?_)
  · refine lv_iconst (v := (1 : Int32)) hx hb d_D_branches_50 (by decide) ?_
    refine lv_istore_n (lv' := [(3, .int (1 : Int32)), (2, .int r_1), (0, .ref (h 20)), (1, .int p0)]) hx hb d_D_branches_51 rfl hl (by decide) rfl (fun ls hl => ?_)
    refine lv_iload_n hx hb d_D_branches_52 rfl (lv_at hl 0 rfl) ?_
    refine lv_bipush (v := (29 : Int32)) hx hb d_D_branches_53 (by decide) ?_
    refine lv_ishl hx hb d_D_branches_55 ?_
    refine lv_iload_n hx hb d_D_branches_56 rfl (lv_at hl 3 rfl) ?_
    refine lv_bipush (v := (25 : Int32)) hx hb d_D_branches_57 (by decide) ?_
    refine lv_ishl hx hb d_D_branches_59 ?_
    refine lv_ior hx hb d_D_branches_60 ?_
    refine lv_ldcw (v := (8388608 : Int32)) hx hb hown (ht _ zw_1161) d_D_branches_61 ?_
    refine lv_ior hx hb d_D_branches_64 ?_
    refine lv_iload_n hx hb d_D_branches_65 rfl (lv_at hl 1 rfl) ?_
    refine lv_ldcw (v := (4194303 : Int32)) hx hb hown (ht _ zw_1162) d_D_branches_66 ?_
    refine lv_iand hx hb d_D_branches_69 ?_
    refine lv_ior hx hb d_D_branches_70 ?_
    exact zl_i (u := u_4) hx hb hr hlocks hS hP hD (⟨by simp only [m_branches, ← er_1, ← eu_1, ← eu_4]; try simp only [if_neg c_2, if_neg c_3, if_pos c_5], by simp only [m_branches, ← er_1, ← eu_1, ← eu_4]; try simp only [if_neg c_2, if_neg c_3, if_pos c_5]⟩) d_D_branches_71
  refine lv_aload_n hx hb d_D_branches_44 rfl (lv_at hl 2 rfl) ?_
  refine lv_bipush (v := (97 : Int32)) hx hb d_D_branches_45 (by decide) ?_
  refine zc_v (w2 := fun u9 => wD h c u9) (va_runV (As := [.int (97 : Int32)]) (rest := []) ⟨hx, hb, hml, hown, ht⟩ (mt_D_must l D h c H.size u_4 (97 : Int32) (olh ok_4)) (cwV 1 ht (zgV zw_1118 zw_1120 zs_76 zw_7 zw_1121) rfl rfl rfl kd_D_must ⟨Nat.le_of_ble_eq_true rfl, Nat.le_of_ble_eq_true rfl⟩) ⟨zw_blind zw_tt, va_recv (hK.sub (tys' := [(c 21, .long), (c 22, .int), (c 23, .int), (c 24, .int), (c 25, .int), (c 26, .int), (c 27, .int), (c 28, .int)]) [0, 1, 2, 3, 4, 5, 6, 7] rfl) (hP.sub (ws' := wD h c u_4) [0, 1, 2, 3, 4, 5, 6, 7, 8] rfl) (ci := 6) (q0 := 0) rfl rfl, zw_go (hP.sub (ws' := wD h c u_4) [0, 1, 2, 3, 4, 5, 6, 7, 8] rfl) (hD.sub (ws' := wD h c u_4) [0, 1, 2, 3, 4, 5, 6, 7, 8] (by decide) rfl) (hK.sub (tys' := [(c 21, .long), (c 22, .int), (c 23, .int), (c 24, .int), (c 25, .int), (c 26, .int), (c 27, .int), (c 28, .int)]) [0, 1, 2, 3, 4, 5, 6, 7] rfl) (fun _ _ _ => trivial)⟩ rfl rfl hl.1 rfl (lv_room (Nat.le_of_ble_eq_true rfl)) d_D_branches_47 ⟨Nat.le_of_ble_eq_true rfl, Nat.le_of_ble_eq_true rfl⟩) hP hD hS hA [0, 1, 2, 3, 4, 5, 6, 7, 8] [] [0, 1, 2, 3, 4, 5, 6, 7, 8] rfl rfl (by decide) (by decide) (by decide) (fun _ => rfl) (fun u_6 H locs hw hP hD hS => ?_)
  have eu_6 := hw
  have ok_6 : okL (k9 + 15) u_6 := by rw [eu_6]; exact (ol_must (by omega) ok_4)
  refine lv_iconst (v := (1 : Int32)) hx hb d_D_branches_50 (by decide) ?_
  refine lv_istore_n (lv' := [(3, .int (1 : Int32)), (2, .int r_1), (0, .ref (h 20)), (1, .int p0)]) hx hb d_D_branches_51 rfl hl (by decide) rfl (fun ls hl => ?_)
  refine lv_iload_n hx hb d_D_branches_52 rfl (lv_at hl 0 rfl) ?_
  refine lv_bipush (v := (29 : Int32)) hx hb d_D_branches_53 (by decide) ?_
  refine lv_ishl hx hb d_D_branches_55 ?_
  refine lv_iload_n hx hb d_D_branches_56 rfl (lv_at hl 3 rfl) ?_
  refine lv_bipush (v := (25 : Int32)) hx hb d_D_branches_57 (by decide) ?_
  refine lv_ishl hx hb d_D_branches_59 ?_
  refine lv_ior hx hb d_D_branches_60 ?_
  refine lv_ldcw (v := (8388608 : Int32)) hx hb hown (ht _ zw_1161) d_D_branches_61 ?_
  refine lv_ior hx hb d_D_branches_64 ?_
  refine lv_iload_n hx hb d_D_branches_65 rfl (lv_at hl 1 rfl) ?_
  refine lv_ldcw (v := (4194303 : Int32)) hx hb hown (ht _ zw_1162) d_D_branches_66 ?_
  refine lv_iand hx hb d_D_branches_69 ?_
  refine lv_ior hx hb d_D_branches_70 ?_
  exact zl_i (u := u_6) hx hb hr hlocks hS hP hD (⟨by simp only [m_branches, ← er_1, ← eu_1, ← eu_4, ← eu_6]; try simp only [if_neg c_2, if_neg c_3, if_neg c_5], by simp only [m_branches, ← er_1, ← eu_1, ← eu_4, ← eu_6]; try simp only [if_neg c_2, if_neg c_3, if_neg c_5]⟩) d_D_branches_71
