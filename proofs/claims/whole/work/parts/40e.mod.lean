theorem d_D_branch_0 : decode c_D_branch 0 = .ok (.iload_n 1, 1) := by decide +kernel
theorem d_D_branch_1 : decode c_D_branch 1 = .ok (.bipush 25, 2) := by decide +kernel
theorem d_D_branch_3 : decode c_D_branch 3 = .ok (.ishr, 1) := by decide +kernel
theorem d_D_branch_4 : decode c_D_branch 4 = .ok (.bipush 15, 2) := by decide +kernel
theorem d_D_branch_6 : decode c_D_branch 6 = .ok (.iand, 1) := by decide +kernel
theorem d_D_branch_7 : decode c_D_branch 7 = .ok (.istore_n 2, 1) := by decide +kernel
theorem d_D_branch_8 : decode c_D_branch 8 = .ok (.iload_n 1, 1) := by decide +kernel
theorem d_D_branch_9 : decode c_D_branch 9 = .ok (.bipush 29, 2) := by decide +kernel
theorem d_D_branch_11 : decode c_D_branch 11 = .ok (.ishr, 1) := by decide +kernel
theorem d_D_branch_12 : decode c_D_branch 12 = .ok (.iconst 1, 1) := by decide +kernel
theorem d_D_branch_13 : decode c_D_branch 13 = .ok (.iand, 1) := by decide +kernel
theorem d_D_branch_14 : decode c_D_branch 14 = .ok (.iconst 1, 1) := by decide +kernel
theorem d_D_branch_15 : decode c_D_branch 15 = .ok (.if_icmp .ne 7, 3) := by decide +kernel
theorem d_D_branch_18 : decode c_D_branch 18 = .ok (.iconst 1, 1) := by decide +kernel
theorem d_D_branch_19 : decode c_D_branch 19 = .ok (.goto 4, 3) := by decide +kernel
theorem d_D_branch_22 : decode c_D_branch 22 = .ok (.iconst 0, 1) := by decide +kernel
theorem d_D_branch_23 : decode c_D_branch 23 = .ok (.istore_n 3, 1) := by decide +kernel
theorem d_D_branch_24 : decode c_D_branch 24 = .ok (.aload_n 0, 1) := by decide +kernel
theorem d_D_branch_25 : decode c_D_branch 25 = .ok (.iload_n 2, 1) := by decide +kernel
theorem d_D_branch_26 : decode c_D_branch 26 = .ok (.invokevirtual 317, 3) := by decide +kernel
theorem d_D_branch_29 : decode c_D_branch 29 = .ok (.istore 4, 2) := by decide +kernel
theorem d_D_branch_31 : decode c_D_branch 31 = .ok (.iload 4, 2) := by decide +kernel
theorem d_D_branch_33 : decode c_D_branch 33 = .ok (.ifCond .eq 19, 3) := by decide +kernel
theorem d_D_branch_36 : decode c_D_branch 36 = .ok (.aload_n 0, 1) := by decide +kernel
theorem d_D_branch_37 : decode c_D_branch 37 = .ok (.aload_n 0, 1) := by decide +kernel
theorem d_D_branch_38 : decode c_D_branch 38 = .ok (.getfield 231, 3) := by decide +kernel
theorem d_D_branch_41 : decode c_D_branch 41 = .ok (.iload_n 1, 1) := by decide +kernel
theorem d_D_branch_42 : decode c_D_branch 42 = .ok (.bipush 10, 2) := by decide +kernel
theorem d_D_branch_44 : decode c_D_branch 44 = .ok (.ishl, 1) := by decide +kernel
theorem d_D_branch_45 : decode c_D_branch 45 = .ok (.bipush 8, 2) := by decide +kernel
theorem d_D_branch_47 : decode c_D_branch 47 = .ok (.ishr, 1) := by decide +kernel
theorem d_D_branch_48 : decode c_D_branch 48 = .ok (.iadd, 1) := by decide +kernel
theorem d_D_branch_49 : decode c_D_branch 49 = .ok (.putfield 320, 3) := by decide +kernel
theorem d_D_branch_52 : decode c_D_branch 52 = .ok (.aload_n 0, 1) := by decide +kernel
theorem d_D_branch_53 : decode c_D_branch 53 = .ok (.iload_n 3, 1) := by decide +kernel
theorem d_D_branch_54 : decode c_D_branch 54 = .ok (.ifCond .eq 18, 3) := by decide +kernel
theorem d_D_branch_57 : decode c_D_branch 57 = .ok (.iload 4, 2) := by decide +kernel
theorem d_D_branch_59 : decode c_D_branch 59 = .ok (.ifCond .eq 9, 3) := by decide +kernel
theorem d_D_branch_62 : decode c_D_branch 62 = .ok (.iload_n 2, 1) := by decide +kernel
theorem d_D_branch_63 : decode c_D_branch 63 = .ok (.bipush 8, 2) := by decide +kernel
theorem d_D_branch_65 : decode c_D_branch 65 = .ok (.if_icmp .ne 7, 3) := by decide +kernel
theorem d_D_branch_68 : decode c_D_branch 68 = .ok (.iconst 1, 1) := by decide +kernel
theorem d_D_branch_69 : decode c_D_branch 69 = .ok (.goto 4, 3) := by decide +kernel
theorem d_D_branch_72 : decode c_D_branch 72 = .ok (.iconst 0, 1) := by decide +kernel
theorem d_D_branch_73 : decode c_D_branch 73 = .ok (.putfield 277, 3) := by decide +kernel
theorem d_D_branch_76 : decode c_D_branch 76 = .ok (.return_, 1) := by decide +kernel
theorem kd_D_branch : (y_D_branch).cls = "WindowMachineModel" ∧ (y_D_branch).cls ≠ "java/lang/invoke/MethodHandle" ∧ (y_D_branch).cls ≠ "java/lang/invoke/VarHandle" ∧ (parseMethodDescriptor (y_D_branch).desc).map (fun d => d.parameters.length) = some 1 := by decide +kernel
def m_branch (st : SD) (p0 : Int32) : SD := (let x_1 := (p0 >>> ((25 : Int32) &&& 31)) &&& (15 : Int32); (let x_2 := (if ((p0 >>> ((29 : Int32) &&& 31)) &&& (1 : Int32)) = (1 : Int32) then (1 : Int32) else (0 : Int32)); (let r_5 := m_holds st x_1; (let u_6 := (if r_5 = (0 : Int32) then st else (upd st.1 22 ((st.1 4) + ((p0 <<< ((10 : Int32) &&& 31)) >>> ((8 : Int32) &&& 31))), st.2.1, st.2.2.1, st.2.2.2.1, st.2.2.2.2.1, st.2.2.2.2.2)); (let x_9 := (if x_2 = (0 : Int32) then (0 : Int32) else (if r_5 = (0 : Int32) then (1 : Int32) else (if x_1 = (8 : Int32) then (1 : Int32) else (0 : Int32)))); (upd u_6.1 20 x_9, u_6.2.1, u_6.2.2.1, u_6.2.2.2.1, u_6.2.2.2.2.1, u_6.2.2.2.2.2))))))
set_option maxHeartbeats 4000000 in
set_option maxRecDepth 100000 in
theorem mt_D_branch (l : Launch) (D : va_G) (h : Nat → Nat) (c : Nat → ClassId) (sz : Nat) (st : SD) (p0 : Int32) : Met l y_D_branch w_D_branch ({ frames := 1, cells := 0, slots := 0, locals := 23 }) (va_Pc [.ref (h 20), .int p0] (zw_pre D vwCl [(c 21, .long), (c 22, .int), (c 23, .int), (c 24, .int), (c 25, .int), (c 26, .int), (c 27, .int), (c 28, .int)] sz (wD h c st) (fun _ => True))) (va_Qv (fun (u : SD) => u = m_branch st p0) (fun u t => zw_at D vwCl (va_A (wD h c st) sz) ((fun (u : SD) => wD h c u) u) t) (va_A (wD h c st) sz)) 0 0 (va_A (wD h c st) sz) := by
  refine zm (Qf := fun A => va_Qv (fun (u : SD) => u = m_branch st p0) (fun u t => zw_at D vwCl A ((fun (u : SD) => wD h c u) u) t) A) (Zf := fun _ _ => True) (cc := c_D_branch) (nL := 5) (ret := none) (by decide) rfl (Nat.le_of_ble_eq_true rfl) ?_
  intro p e s m below meth c9 A H locs ls hx hb hml hown hts hr hlocks hA hK hP hD hS hZ hl
  have hl : lv_has ls 5 [(0, .ref (h 20)), (1, .int p0)] := hl
  have ht : ∀ w9 ∈ zT, w9.before _ s = true := fun w9 h9 => hts w9 (List.mem_cons_of_mem _ h9)
  refine lv_iload_n hx hb d_D_branch_0 rfl (lv_at hl 1 rfl) ?_
  refine lv_bipush (v := (25 : Int32)) hx hb d_D_branch_1 (by decide) ?_
  refine lv_ishr hx hb d_D_branch_3 ?_
  refine lv_bipush (v := (15 : Int32)) hx hb d_D_branch_4 (by decide) ?_
  refine lv_iand hx hb d_D_branch_6 ?_
  refine lv_topi (fun x_1 ex_1 => ?_)
  refine lv_istore_n (lv' := [(2, .int x_1), (0, .ref (h 20)), (1, .int p0)]) hx hb d_D_branch_7 rfl hl (by decide) rfl (fun ls hl => ?_)
  refine lv_iload_n hx hb d_D_branch_8 rfl (lv_at hl 2 rfl) ?_
  refine lv_bipush (v := (29 : Int32)) hx hb d_D_branch_9 (by decide) ?_
  refine lv_ishr hx hb d_D_branch_11 ?_
  refine lv_iconst (v := (1 : Int32)) hx hb d_D_branch_12 (by decide) ?_
  refine lv_iand hx hb d_D_branch_13 ?_
  refine lv_iconst (v := (1 : Int32)) hx hb d_D_branch_14 (by decide) ?_
  refine zcut (X := Int32) (G := fun v9 H locs ls => v9 = (if ((p0 >>> ((29 : Int32) &&& 31)) &&& (1 : Int32)) = (1 : Int32) then (1 : Int32) else (0 : Int32)) ∧ va_P D vwCl (wD h c st) H ∧ va_D A (wD h c st) ∧ va_S A s.heap H locs ∧ lv_has ls 5 [(0, .ref (h 20)), (1, .int p0), (2, .int x_1)]) (fr := fun v9 ls => F0 m 23 ls [.int v9]) (fun J_3 => ?_) (fun v9 H locs ls hG => ?_)
  · refine lv_icmp_ne (tgt := 22) hx hb d_D_branch_15 (by decide) (fun c_4 => ?_) (fun c_4 => ?_)
    · refine lv_iconst (v := (0 : Int32)) hx hb d_D_branch_22 (by decide) ?_
      exact J_3 (0 : Int32) _ _ _ ⟨by simp only [if_neg c_4], hP, hD, hS, (lv_sub hl [1, 2, 0] rfl)⟩
    refine lv_iconst (v := (1 : Int32)) hx hb d_D_branch_18 (by decide) ?_
    refine lv_goto (tgt := 23) hx hb d_D_branch_19 (by decide) ?_
    exact J_3 (1 : Int32) _ _ _ ⟨by simp only [if_pos c_4], hP, hD, hS, (lv_sub hl [1, 2, 0] rfl)⟩
  obtain ⟨x_2, rfl⟩ : ∃ z, z = v9 := ⟨_, rfl⟩
  obtain ⟨ex_2, hP, hD, hS, hl⟩ := hG
  have zbx_2 : zB x_2 := by rw [ex_2]; repeat' first | exact zB0 | exact zB1 | assumption | apply zB_ite
  refine lv_istore_n (lv' := [(3, .int x_2), (0, .ref (h 20)), (1, .int p0), (2, .int x_1)]) hx hb d_D_branch_23 rfl hl (by decide) rfl (fun ls hl => ?_)
  refine lv_aload_n hx hb d_D_branch_24 rfl (lv_at hl 1 rfl) ?_
  refine lv_iload_n hx hb d_D_branch_25 rfl (lv_at hl 3 rfl) ?_
  refine zc_i (w2 := fun _ => wD h c st) (va_runV (As := [.int x_1]) (rest := []) ⟨hx, hb, hml, hown, ht⟩ (mt_D_holds l D h c H.size st x_1) (cwV 1 ht (zgV zw_1019 zw_1021 zs_62 zw_7 zw_1022) rfl rfl rfl kd_D_holds ⟨Nat.le_of_ble_eq_true rfl, Nat.le_of_ble_eq_true rfl⟩) ⟨zw_blind zw_tt, va_recv (hK.sub (tys' := [(c 21, .long), (c 22, .int), (c 23, .int), (c 24, .int), (c 25, .int), (c 26, .int), (c 27, .int), (c 28, .int)]) [0, 1, 2, 3, 4, 5, 6, 7] rfl) (hP.sub (ws' := wD h c st) [0, 1, 2, 3, 4, 5, 6, 7, 8] rfl) (ci := 6) (q0 := 0) rfl rfl, zw_go (hP.sub (ws' := wD h c st) [0, 1, 2, 3, 4, 5, 6, 7, 8] rfl) (hD.sub (ws' := wD h c st) [0, 1, 2, 3, 4, 5, 6, 7, 8] (by decide) rfl) (hK.sub (tys' := [(c 21, .long), (c 22, .int), (c 23, .int), (c 24, .int), (c 25, .int), (c 26, .int), (c 27, .int), (c 28, .int)]) [0, 1, 2, 3, 4, 5, 6, 7] rfl) (fun _ _ _ => trivial)⟩ rfl rfl hl.1 rfl (lv_room (Nat.le_of_ble_eq_true rfl)) d_D_branch_26 ⟨Nat.le_of_ble_eq_true rfl, Nat.le_of_ble_eq_true rfl⟩) hP hD hS hA [0, 1, 2, 3, 4, 5, 6, 7, 8] [] [0, 1, 2, 3, 4, 5, 6, 7, 8] rfl rfl (by decide) (by decide) (by decide) (fun _ => rfl) (fun r_5 _ H locs hw hP hD hS => ?_)
  have er_5 := hw
  refine lv_istore (lv' := [(4, .int r_5), (3, .int x_2), (0, .ref (h 20)), (1, .int p0), (2, .int x_1)]) hx hb d_D_branch_29 hl (by decide) rfl (fun ls hl => ?_)
  refine lv_iload hx hb d_D_branch_31 (lv_at hl 0 rfl) ?_
  refine zcut (X := SD) (G := fun v9 H locs ls => v9 = (if r_5 = (0 : Int32) then st else (upd st.1 22 ((st.1 4) + ((p0 <<< ((10 : Int32) &&& 31)) >>> ((8 : Int32) &&& 31))), st.2.1, st.2.2.1, st.2.2.2.1, st.2.2.2.2.1, st.2.2.2.2.2)) ∧ va_P D vwCl (wD h c v9) H ∧ va_D A (wD h c v9) ∧ va_S A s.heap H locs ∧ lv_has ls 5 [(0, .ref (h 20)), (1, .int p0), (2, .int x_1), (3, .int x_2), (4, .int r_5)]) (fr := fun v9 ls => F0 m 52 ls []) (fun J_7 => ?_) (fun v9 H locs ls hG => ?_)
  · refine lv_if_eq (tgt := 52) hx hb d_D_branch_33 (by decide) (fun c_8 => ?_) (fun c_8 => ?_)
    · exact J_7 st _ _ _ ⟨by simp only [if_pos c_8], hP, hD, hS, (lv_sub hl [2, 3, 4, 1, 0] rfl)⟩
    refine lv_aload_n hx hb d_D_branch_36 rfl (lv_at hl 2 rfl) ?_
    refine lv_aload_n hx hb d_D_branch_37 rfl (lv_at hl 2 rfl) ?_
    refine va_get (D := D) (ci := 6) (v := .int (st.1 4)) (C := "WindowMachineModel") (T := T_D) (N := 31) hx hb ht zi_D hown hK hP 0 rfl rfl 12 (by decide) (ht _ zw_866) (fun _ h9 => h9) rfl d_D_branch_38 ?_
    refine lv_iload_n hx hb d_D_branch_41 rfl (lv_at hl 3 rfl) ?_
    refine lv_bipush (v := (10 : Int32)) hx hb d_D_branch_42 (by decide) ?_
    refine lv_ishl hx hb d_D_branch_44 ?_
    refine lv_bipush (v := (8 : Int32)) hx hb d_D_branch_45 (by decide) ?_
    refine lv_ishr hx hb d_D_branch_47 ?_
    refine lv_iadd hx hb d_D_branch_48 ?_
    refine va_put (D := D) (ci := 6) (v := .int ((st.1 4) + ((p0 <<< ((10 : Int32) &&& 31)) >>> ((8 : Int32) &&& 31)))) (ty := .int) (C := "WindowMachineModel") (T := T_D) (N := 31) hx hb ht zi_D ty_D tyok_D nm_D hown hK hP hD hS 0 rfl rfl 30 (by decide) (ht _ zw_884) (fun _ h9 => h9) rfl (by decide +kernel) rfl rfl (Nat.le_of_ble_eq_true rfl) d_D_branch_49 (fun H locs hP hD hS => ?_)
    have hP : va_P D vwCl (wD h c (upd st.1 22 ((st.1 4) + ((p0 <<< ((10 : Int32) &&& 31)) >>> ((8 : Int32) &&& 31))), st.2.1, st.2.2.1, st.2.2.2.1, st.2.2.2.2.1, st.2.2.2.2.2)) H := hP
    have hD : va_D A (wD h c (upd st.1 22 ((st.1 4) + ((p0 <<< ((10 : Int32) &&& 31)) >>> ((8 : Int32) &&& 31))), st.2.1, st.2.2.1, st.2.2.2.1, st.2.2.2.2.1, st.2.2.2.2.2)) := hD
    exact J_7 (upd st.1 22 ((st.1 4) + ((p0 <<< ((10 : Int32) &&& 31)) >>> ((8 : Int32) &&& 31))), st.2.1, st.2.2.1, st.2.2.2.1, st.2.2.2.2.1, st.2.2.2.2.2) _ _ _ ⟨by simp only [if_neg c_8], hP, hD, hS, (lv_sub hl [2, 3, 4, 1, 0] rfl)⟩
  obtain ⟨u_6, rfl⟩ : ∃ z, z = v9 := ⟨_, rfl⟩
  obtain ⟨eu_6, hP, hD, hS, hl⟩ := hG
  refine lv_aload_n hx hb d_D_branch_52 rfl (lv_at hl 0 rfl) ?_
  refine lv_iload_n hx hb d_D_branch_53 rfl (lv_at hl 3 rfl) ?_
  refine zcut (X := Int32) (G := fun v9 H locs ls => v9 = (if x_2 = (0 : Int32) then (0 : Int32) else (if r_5 = (0 : Int32) then (1 : Int32) else (if x_1 = (8 : Int32) then (1 : Int32) else (0 : Int32)))) ∧ va_P D vwCl (wD h c u_6) H ∧ va_D A (wD h c u_6) ∧ va_S A s.heap H locs ∧ lv_has ls 5 [(0, .ref (h 20)), (1, .int p0), (2, .int x_1), (3, .int x_2), (4, .int r_5)]) (fr := fun v9 ls => F0 m 73 ls [.int v9, .ref (h 20)]) (fun J_10 => ?_) (fun v9 H locs ls hG => ?_)
  · refine lv_if_eq (tgt := 72) hx hb d_D_branch_54 (by decide) (fun c_11 => ?_) (fun c_11 => ?_)
    · refine lv_iconst (v := (0 : Int32)) hx hb d_D_branch_72 (by decide) ?_
      exact J_10 (0 : Int32) _ _ _ ⟨by simp only [if_pos c_11], hP, hD, hS, hl⟩
    refine lv_iload hx hb d_D_branch_57 (lv_at hl 4 rfl) ?_
    refine lv_if_eq (tgt := 68) hx hb d_D_branch_59 (by decide) (fun c_12 => ?_) (fun c_12 => ?_)
    · refine lv_iconst (v := (1 : Int32)) hx hb d_D_branch_68 (by decide) ?_
      refine lv_goto (tgt := 73) hx hb d_D_branch_69 (by decide) ?_
      exact J_10 (1 : Int32) _ _ _ ⟨by simp only [if_neg c_11, if_pos c_12], hP, hD, hS, hl⟩
    refine lv_iload_n hx hb d_D_branch_62 rfl (lv_at hl 2 rfl) ?_
    refine lv_bipush (v := (8 : Int32)) hx hb d_D_branch_63 (by decide) ?_
    refine lv_icmp_ne (tgt := 72) hx hb d_D_branch_65 (by decide) (fun c_13 => ?_) (fun c_13 => ?_)
    · refine lv_iconst (v := (0 : Int32)) hx hb d_D_branch_72 (by decide) ?_
      exact J_10 (0 : Int32) _ _ _ ⟨by simp only [if_neg c_11, if_neg c_12, if_neg c_13], hP, hD, hS, hl⟩
    refine lv_iconst (v := (1 : Int32)) hx hb d_D_branch_68 (by decide) ?_
    refine lv_goto (tgt := 73) hx hb d_D_branch_69 (by decide) ?_
    exact J_10 (1 : Int32) _ _ _ ⟨by simp only [if_neg c_11, if_neg c_12, if_pos c_13], hP, hD, hS, hl⟩
  obtain ⟨x_9, rfl⟩ : ∃ z, z = v9 := ⟨_, rfl⟩
  obtain ⟨ex_9, hP, hD, hS, hl⟩ := hG
  have zbx_9 : zB x_9 := by rw [ex_9]; repeat' first | exact zB0 | exact zB1 | assumption | apply zB_ite
  refine va_put (D := D) (ci := 6) (v := .int x_9) (ty := .boolean) (C := "WindowMachineModel") (T := T_D) (N := 31) hx hb ht zi_D ty_D tyok_D nm_D hown hK hP hD hS 0 rfl rfl 28 (by decide) (ht _ zw_882) (fun _ h9 => h9) rfl (by decide +kernel) (zbx_9).n (zbx_9).f (Nat.le_of_ble_eq_true rfl) d_D_branch_73 (fun H locs hP hD hS => ?_)
  have hP : va_P D vwCl (wD h c (upd u_6.1 20 x_9, u_6.2.1, u_6.2.2.1, u_6.2.2.2.1, u_6.2.2.2.2.1, u_6.2.2.2.2.2)) H := hP
  have hD : va_D A (wD h c (upd u_6.1 20 x_9, u_6.2.1, u_6.2.2.1, u_6.2.2.2.1, u_6.2.2.2.2.1, u_6.2.2.2.2.2)) := hD
  exact zl_v (u := (upd u_6.1 20 x_9, u_6.2.1, u_6.2.2.1, u_6.2.2.2.1, u_6.2.2.2.2.1, u_6.2.2.2.2.2)) hx hb hr hlocks hS hP hD (by simp only [m_branch, ← ex_1, ← ex_2, ← er_5, ← eu_6, ← ex_9]) d_D_branch_76
theorem d_D_psr_0 : decode c_D_psr 0 = .ok (.aload_n 0, 1) := by decide +kernel
theorem d_D_psr_1 : decode c_D_psr 1 = .ok (.getfield 255, 3) := by decide +kernel
theorem d_D_psr_4 : decode c_D_psr 4 = .ok (.invokestatic 355, 3) := by decide +kernel
theorem d_D_psr_7 : decode c_D_psr 7 = .ok (.bipush 23, 2) := by decide +kernel
theorem d_D_psr_9 : decode c_D_psr 9 = .ok (.ishl, 1) := by decide +kernel
theorem d_D_psr_10 : decode c_D_psr 10 = .ok (.aload_n 0, 1) := by decide +kernel
theorem d_D_psr_11 : decode c_D_psr 11 = .ok (.getfield 259, 3) := by decide +kernel
theorem d_D_psr_14 : decode c_D_psr 14 = .ok (.invokestatic 355, 3) := by decide +kernel
theorem d_D_psr_17 : decode c_D_psr 17 = .ok (.bipush 22, 2) := by decide +kernel
theorem d_D_psr_19 : decode c_D_psr 19 = .ok (.ishl, 1) := by decide +kernel
theorem d_D_psr_20 : decode c_D_psr 20 = .ok (.ior, 1) := by decide +kernel
theorem d_D_psr_21 : decode c_D_psr 21 = .ok (.aload_n 0, 1) := by decide +kernel
theorem d_D_psr_22 : decode c_D_psr 22 = .ok (.getfield 262, 3) := by decide +kernel
theorem d_D_psr_25 : decode c_D_psr 25 = .ok (.invokestatic 355, 3) := by decide +kernel
theorem d_D_psr_28 : decode c_D_psr 28 = .ok (.bipush 21, 2) := by decide +kernel
theorem d_D_psr_30 : decode c_D_psr 30 = .ok (.ishl, 1) := by decide +kernel
theorem d_D_psr_31 : decode c_D_psr 31 = .ok (.ior, 1) := by decide +kernel
theorem d_D_psr_32 : decode c_D_psr 32 = .ok (.aload_n 0, 1) := by decide +kernel
theorem d_D_psr_33 : decode c_D_psr 33 = .ok (.getfield 265, 3) := by decide +kernel
theorem d_D_psr_36 : decode c_D_psr 36 = .ok (.invokestatic 355, 3) := by decide +kernel
theorem d_D_psr_39 : decode c_D_psr 39 = .ok (.bipush 20, 2) := by decide +kernel
theorem d_D_psr_41 : decode c_D_psr 41 = .ok (.ishl, 1) := by decide +kernel
theorem d_D_psr_42 : decode c_D_psr 42 = .ok (.ior, 1) := by decide +kernel
theorem d_D_psr_43 : decode c_D_psr 43 = .ok (.aload_n 0, 1) := by decide +kernel
theorem d_D_psr_44 : decode c_D_psr 44 = .ok (.getfield 268, 3) := by decide +kernel
theorem d_D_psr_47 : decode c_D_psr 47 = .ok (.invokestatic 355, 3) := by decide +kernel
theorem d_D_psr_50 : decode c_D_psr 50 = .ok (.bipush 7, 2) := by decide +kernel
theorem d_D_psr_52 : decode c_D_psr 52 = .ok (.ishl, 1) := by decide +kernel
theorem d_D_psr_53 : decode c_D_psr 53 = .ok (.ior, 1) := by decide +kernel
theorem d_D_psr_54 : decode c_D_psr 54 = .ok (.aload_n 0, 1) := by decide +kernel
theorem d_D_psr_55 : decode c_D_psr 55 = .ok (.getfield 271, 3) := by decide +kernel
theorem d_D_psr_58 : decode c_D_psr 58 = .ok (.invokestatic 355, 3) := by decide +kernel
theorem d_D_psr_61 : decode c_D_psr 61 = .ok (.bipush 6, 2) := by decide +kernel
theorem d_D_psr_63 : decode c_D_psr 63 = .ok (.ishl, 1) := by decide +kernel
theorem d_D_psr_64 : decode c_D_psr 64 = .ok (.ior, 1) := by decide +kernel
theorem d_D_psr_65 : decode c_D_psr 65 = .ok (.aload_n 0, 1) := by decide +kernel
theorem d_D_psr_66 : decode c_D_psr 66 = .ok (.getfield 274, 3) := by decide +kernel
theorem d_D_psr_69 : decode c_D_psr 69 = .ok (.invokestatic 355, 3) := by decide +kernel
theorem d_D_psr_72 : decode c_D_psr 72 = .ok (.iconst 5, 1) := by decide +kernel
theorem d_D_psr_73 : decode c_D_psr 73 = .ok (.ishl, 1) := by decide +kernel
theorem d_D_psr_74 : decode c_D_psr 74 = .ok (.ior, 1) := by decide +kernel
theorem d_D_psr_75 : decode c_D_psr 75 = .ok (.aload_n 0, 1) := by decide +kernel
theorem d_D_psr_76 : decode c_D_psr 76 = .ok (.getfield 237, 3) := by decide +kernel
theorem d_D_psr_79 : decode c_D_psr 79 = .ok (.ior, 1) := by decide +kernel
theorem d_D_psr_80 : decode c_D_psr 80 = .ok (.ireturn, 1) := by decide +kernel
theorem kd_D_psr : (y_D_psr).cls = "WindowMachineModel" ∧ (y_D_psr).cls ≠ "java/lang/invoke/MethodHandle" ∧ (y_D_psr).cls ≠ "java/lang/invoke/VarHandle" ∧ (parseMethodDescriptor (y_D_psr).desc).map (fun d => d.parameters.length) = some 0 := by decide +kernel
def m_psr (st : SD) : Int32 := (let r_1 := m_bit (st.1 13); (let r_2 := m_bit (st.1 14); (let r_3 := m_bit (st.1 15); (let r_4 := m_bit (st.1 16); (let r_5 := m_bit (st.1 17); (let r_6 := m_bit (st.1 18); (let r_7 := m_bit (st.1 19); (((((((r_1 <<< ((23 : Int32) &&& 31)) ||| (r_2 <<< ((22 : Int32) &&& 31))) ||| (r_3 <<< ((21 : Int32) &&& 31))) ||| (r_4 <<< ((20 : Int32) &&& 31))) ||| (r_5 <<< ((7 : Int32) &&& 31))) ||| (r_6 <<< ((6 : Int32) &&& 31))) ||| (r_7 <<< ((5 : Int32) &&& 31))) ||| (st.1 6))))))))
set_option maxHeartbeats 4000000 in
set_option maxRecDepth 100000 in
theorem mt_D_psr (l : Launch) (D : va_G) (h : Nat → Nat) (c : Nat → ClassId) (sz : Nat) (st : SD) : Met l y_D_psr w_D_psr ({ frames := 1, cells := 0, slots := 0, locals := 20 }) (va_Pc [.ref (h 20)] (zw_pre D vwCl [(c 21, .long), (c 22, .int), (c 23, .int), (c 24, .int), (c 25, .int), (c 26, .int), (c 27, .int), (c 28, .int)] sz (wD h c st) (fun _ => True))) (va_Qi (fun r (_ : Unit) => r = m_psr st) (fun u t => zw_at D vwCl (va_A (wD h c st) sz) ((fun (_ : Unit) => wD h c st) u) t) (va_A (wD h c st) sz)) 0 0 (va_A (wD h c st) sz) := by
  refine zm (Qf := fun A => va_Qi (fun r (_ : Unit) => r = m_psr st) (fun u t => zw_at D vwCl A ((fun (_ : Unit) => wD h c st) u) t) A) (Zf := fun _ _ => True) (cc := c_D_psr) (nL := 1) (ret := (some .int)) (by decide) rfl (Nat.le_of_ble_eq_true rfl) ?_
  intro p e s m below meth c9 A H locs ls hx hb hml hown hts hr hlocks hA hK hP hD hS hZ hl
  have hl : lv_has ls 1 [(0, .ref (h 20))] := hl
  have ht : ∀ w9 ∈ zT, w9.before _ s = true := fun w9 h9 => hts w9 (List.mem_cons_of_mem _ h9)
  refine lv_aload_n hx hb d_D_psr_0 rfl (lv_at hl 0 rfl) ?_
  refine va_get (D := D) (ci := 6) (v := .int (st.1 13)) (C := "WindowMachineModel") (T := T_D) (N := 31) hx hb ht zi_D hown hK hP 0 rfl rfl 21 (by decide) (ht _ zw_875) (fun _ h9 => h9) rfl d_D_psr_1 ?_
  refine zc_i (w2 := fun _ => wD h c st) (va_runS (As := [.int (st.1 13)]) (rest := []) ⟨hx, hb, hml, hown, ht⟩ (mt_D_bit l D H.size (st.1 13)) (cwS 1 ht (zgS zw_1043 zw_1044 zw_7 zw_1045) rfl rfl rfl kd_D_bit ⟨Nat.le_of_ble_eq_true rfl, Nat.le_of_ble_eq_true rfl⟩) ⟨zw_blind zw_tt, zw_go (hP.sub (ws' := []) [] rfl) (hD.sub (ws' := []) [] (by decide) rfl) (hK.sub (tys' := []) [] rfl) (fun _ _ _ => trivial)⟩ rfl rfl hl.1 rfl (lv_room (Nat.le_of_ble_eq_true rfl)) d_D_psr_4 ⟨Nat.le_of_ble_eq_true rfl, Nat.le_of_ble_eq_true rfl⟩) hP hD hS hA [] [0, 1, 2, 3, 4, 5, 6, 7, 8] [0, 1, 2, 3, 4, 5, 6, 7, 8] rfl rfl (by decide) (by decide) (by decide) (fun _ => rfl) (fun r_1 _ H locs hw hP hD hS => ?_)
  have er_1 := hw
  refine lv_bipush (v := (23 : Int32)) hx hb d_D_psr_7 (by decide) ?_
  refine lv_ishl hx hb d_D_psr_9 ?_
  refine lv_aload_n hx hb d_D_psr_10 rfl (lv_at hl 0 rfl) ?_
  refine va_get (D := D) (ci := 6) (v := .int (st.1 14)) (C := "WindowMachineModel") (T := T_D) (N := 31) hx hb ht zi_D hown hK hP 0 rfl rfl 22 (by decide) (ht _ zw_876) (fun _ h9 => h9) rfl d_D_psr_11 ?_
  refine zc_i (w2 := fun _ => wD h c st) (va_runS (As := [.int (st.1 14)]) (rest := [.int (r_1 <<< ((23 : Int32) &&& 31))]) ⟨hx, hb, hml, hown, ht⟩ (mt_D_bit l D H.size (st.1 14)) (cwS 1 ht (zgS zw_1043 zw_1044 zw_7 zw_1045) rfl rfl rfl kd_D_bit ⟨Nat.le_of_ble_eq_true rfl, Nat.le_of_ble_eq_true rfl⟩) ⟨zw_blind zw_tt, zw_go (hP.sub (ws' := []) [] rfl) (hD.sub (ws' := []) [] (by decide) rfl) (hK.sub (tys' := []) [] rfl) (fun _ _ _ => trivial)⟩ rfl rfl hl.1 rfl (lv_room (Nat.le_of_ble_eq_true rfl)) d_D_psr_14 ⟨Nat.le_of_ble_eq_true rfl, Nat.le_of_ble_eq_true rfl⟩) hP hD hS hA [] [0, 1, 2, 3, 4, 5, 6, 7, 8] [0, 1, 2, 3, 4, 5, 6, 7, 8] rfl rfl (by decide) (by decide) (by decide) (fun _ => rfl) (fun r_2 _ H locs hw hP hD hS => ?_)
  have er_2 := hw
  refine lv_bipush (v := (22 : Int32)) hx hb d_D_psr_17 (by decide) ?_
  refine lv_ishl hx hb d_D_psr_19 ?_
  refine lv_ior hx hb d_D_psr_20 ?_
  refine lv_aload_n hx hb d_D_psr_21 rfl (lv_at hl 0 rfl) ?_
  refine va_get (D := D) (ci := 6) (v := .int (st.1 15)) (C := "WindowMachineModel") (T := T_D) (N := 31) hx hb ht zi_D hown hK hP 0 rfl rfl 23 (by decide) (ht _ zw_877) (fun _ h9 => h9) rfl d_D_psr_22 ?_
  refine zc_i (w2 := fun _ => wD h c st) (va_runS (As := [.int (st.1 15)]) (rest := [.int ((r_1 <<< ((23 : Int32) &&& 31)) ||| (r_2 <<< ((22 : Int32) &&& 31)))]) ⟨hx, hb, hml, hown, ht⟩ (mt_D_bit l D H.size (st.1 15)) (cwS 1 ht (zgS zw_1043 zw_1044 zw_7 zw_1045) rfl rfl rfl kd_D_bit ⟨Nat.le_of_ble_eq_true rfl, Nat.le_of_ble_eq_true rfl⟩) ⟨zw_blind zw_tt, zw_go (hP.sub (ws' := []) [] rfl) (hD.sub (ws' := []) [] (by decide) rfl) (hK.sub (tys' := []) [] rfl) (fun _ _ _ => trivial)⟩ rfl rfl hl.1 rfl (lv_room (Nat.le_of_ble_eq_true rfl)) d_D_psr_25 ⟨Nat.le_of_ble_eq_true rfl, Nat.le_of_ble_eq_true rfl⟩) hP hD hS hA [] [0, 1, 2, 3, 4, 5, 6, 7, 8] [0, 1, 2, 3, 4, 5, 6, 7, 8] rfl rfl (by decide) (by decide) (by decide) (fun _ => rfl) (fun r_3 _ H locs hw hP hD hS => ?_)
  have er_3 := hw
  refine lv_bipush (v := (21 : Int32)) hx hb d_D_psr_28 (by decide) ?_
  refine lv_ishl hx hb d_D_psr_30 ?_
  refine lv_ior hx hb d_D_psr_31 ?_
  refine lv_aload_n hx hb d_D_psr_32 rfl (lv_at hl 0 rfl) ?_
  refine va_get (D := D) (ci := 6) (v := .int (st.1 16)) (C := "WindowMachineModel") (T := T_D) (N := 31) hx hb ht zi_D hown hK hP 0 rfl rfl 24 (by decide) (ht _ zw_878) (fun _ h9 => h9) rfl d_D_psr_33 ?_
  refine zc_i (w2 := fun _ => wD h c st) (va_runS (As := [.int (st.1 16)]) (rest := [.int (((r_1 <<< ((23 : Int32) &&& 31)) ||| (r_2 <<< ((22 : Int32) &&& 31))) ||| (r_3 <<< ((21 : Int32) &&& 31)))]) ⟨hx, hb, hml, hown, ht⟩ (mt_D_bit l D H.size (st.1 16)) (cwS 1 ht (zgS zw_1043 zw_1044 zw_7 zw_1045) rfl rfl rfl kd_D_bit ⟨Nat.le_of_ble_eq_true rfl, Nat.le_of_ble_eq_true rfl⟩) ⟨zw_blind zw_tt, zw_go (hP.sub (ws' := []) [] rfl) (hD.sub (ws' := []) [] (by decide) rfl) (hK.sub (tys' := []) [] rfl) (fun _ _ _ => trivial)⟩ rfl rfl hl.1 rfl (lv_room (Nat.le_of_ble_eq_true rfl)) d_D_psr_36 ⟨Nat.le_of_ble_eq_true rfl, Nat.le_of_ble_eq_true rfl⟩) hP hD hS hA [] [0, 1, 2, 3, 4, 5, 6, 7, 8] [0, 1, 2, 3, 4, 5, 6, 7, 8] rfl rfl (by decide) (by decide) (by decide) (fun _ => rfl) (fun r_4 _ H locs hw hP hD hS => ?_)
  have er_4 := hw
  refine lv_bipush (v := (20 : Int32)) hx hb d_D_psr_39 (by decide) ?_
  refine lv_ishl hx hb d_D_psr_41 ?_
  refine lv_ior hx hb d_D_psr_42 ?_
  refine lv_aload_n hx hb d_D_psr_43 rfl (lv_at hl 0 rfl) ?_
  refine va_get (D := D) (ci := 6) (v := .int (st.1 17)) (C := "WindowMachineModel") (T := T_D) (N := 31) hx hb ht zi_D hown hK hP 0 rfl rfl 25 (by decide) (ht _ zw_879) (fun _ h9 => h9) rfl d_D_psr_44 ?_
  refine zc_i (w2 := fun _ => wD h c st) (va_runS (As := [.int (st.1 17)]) (rest := [.int ((((r_1 <<< ((23 : Int32) &&& 31)) ||| (r_2 <<< ((22 : Int32) &&& 31))) ||| (r_3 <<< ((21 : Int32) &&& 31))) ||| (r_4 <<< ((20 : Int32) &&& 31)))]) ⟨hx, hb, hml, hown, ht⟩ (mt_D_bit l D H.size (st.1 17)) (cwS 1 ht (zgS zw_1043 zw_1044 zw_7 zw_1045) rfl rfl rfl kd_D_bit ⟨Nat.le_of_ble_eq_true rfl, Nat.le_of_ble_eq_true rfl⟩) ⟨zw_blind zw_tt, zw_go (hP.sub (ws' := []) [] rfl) (hD.sub (ws' := []) [] (by decide) rfl) (hK.sub (tys' := []) [] rfl) (fun _ _ _ => trivial)⟩ rfl rfl hl.1 rfl (lv_room (Nat.le_of_ble_eq_true rfl)) d_D_psr_47 ⟨Nat.le_of_ble_eq_true rfl, Nat.le_of_ble_eq_true rfl⟩) hP hD hS hA [] [0, 1, 2, 3, 4, 5, 6, 7, 8] [0, 1, 2, 3, 4, 5, 6, 7, 8] rfl rfl (by decide) (by decide) (by decide) (fun _ => rfl) (fun r_5 _ H locs hw hP hD hS => ?_)
  have er_5 := hw
  refine lv_bipush (v := (7 : Int32)) hx hb d_D_psr_50 (by decide) ?_
  refine lv_ishl hx hb d_D_psr_52 ?_
  refine lv_ior hx hb d_D_psr_53 ?_
  refine lv_aload_n hx hb d_D_psr_54 rfl (lv_at hl 0 rfl) ?_
  refine va_get (D := D) (ci := 6) (v := .int (st.1 18)) (C := "WindowMachineModel") (T := T_D) (N := 31) hx hb ht zi_D hown hK hP 0 rfl rfl 26 (by decide) (ht _ zw_880) (fun _ h9 => h9) rfl d_D_psr_55 ?_
  refine zc_i (w2 := fun _ => wD h c st) (va_runS (As := [.int (st.1 18)]) (rest := [.int (((((r_1 <<< ((23 : Int32) &&& 31)) ||| (r_2 <<< ((22 : Int32) &&& 31))) ||| (r_3 <<< ((21 : Int32) &&& 31))) ||| (r_4 <<< ((20 : Int32) &&& 31))) ||| (r_5 <<< ((7 : Int32) &&& 31)))]) ⟨hx, hb, hml, hown, ht⟩ (mt_D_bit l D H.size (st.1 18)) (cwS 1 ht (zgS zw_1043 zw_1044 zw_7 zw_1045) rfl rfl rfl kd_D_bit ⟨Nat.le_of_ble_eq_true rfl, Nat.le_of_ble_eq_true rfl⟩) ⟨zw_blind zw_tt, zw_go (hP.sub (ws' := []) [] rfl) (hD.sub (ws' := []) [] (by decide) rfl) (hK.sub (tys' := []) [] rfl) (fun _ _ _ => trivial)⟩ rfl rfl hl.1 rfl (lv_room (Nat.le_of_ble_eq_true rfl)) d_D_psr_58 ⟨Nat.le_of_ble_eq_true rfl, Nat.le_of_ble_eq_true rfl⟩) hP hD hS hA [] [0, 1, 2, 3, 4, 5, 6, 7, 8] [0, 1, 2, 3, 4, 5, 6, 7, 8] rfl rfl (by decide) (by decide) (by decide) (fun _ => rfl) (fun r_6 _ H locs hw hP hD hS => ?_)
  have er_6 := hw
  refine lv_bipush (v := (6 : Int32)) hx hb d_D_psr_61 (by decide) ?_
  refine lv_ishl hx hb d_D_psr_63 ?_
  refine lv_ior hx hb d_D_psr_64 ?_
  refine lv_aload_n hx hb d_D_psr_65 rfl (lv_at hl 0 rfl) ?_
  refine va_get (D := D) (ci := 6) (v := .int (st.1 19)) (C := "WindowMachineModel") (T := T_D) (N := 31) hx hb ht zi_D hown hK hP 0 rfl rfl 27 (by decide) (ht _ zw_881) (fun _ h9 => h9) rfl d_D_psr_66 ?_
  refine zc_i (w2 := fun _ => wD h c st) (va_runS (As := [.int (st.1 19)]) (rest := [.int ((((((r_1 <<< ((23 : Int32) &&& 31)) ||| (r_2 <<< ((22 : Int32) &&& 31))) ||| (r_3 <<< ((21 : Int32) &&& 31))) ||| (r_4 <<< ((20 : Int32) &&& 31))) ||| (r_5 <<< ((7 : Int32) &&& 31))) ||| (r_6 <<< ((6 : Int32) &&& 31)))]) ⟨hx, hb, hml, hown, ht⟩ (mt_D_bit l D H.size (st.1 19)) (cwS 1 ht (zgS zw_1043 zw_1044 zw_7 zw_1045) rfl rfl rfl kd_D_bit ⟨Nat.le_of_ble_eq_true rfl, Nat.le_of_ble_eq_true rfl⟩) ⟨zw_blind zw_tt, zw_go (hP.sub (ws' := []) [] rfl) (hD.sub (ws' := []) [] (by decide) rfl) (hK.sub (tys' := []) [] rfl) (fun _ _ _ => trivial)⟩ rfl rfl hl.1 rfl (lv_room (Nat.le_of_ble_eq_true rfl)) d_D_psr_69 ⟨Nat.le_of_ble_eq_true rfl, Nat.le_of_ble_eq_true rfl⟩) hP hD hS hA [] [0, 1, 2, 3, 4, 5, 6, 7, 8] [0, 1, 2, 3, 4, 5, 6, 7, 8] rfl rfl (by decide) (by decide) (by decide) (fun _ => rfl) (fun r_7 _ H locs hw hP hD hS => ?_)
  have er_7 := hw
  refine lv_iconst (v := (5 : Int32)) hx hb d_D_psr_72 (by decide) ?_
  refine lv_ishl hx hb d_D_psr_73 ?_
  refine lv_ior hx hb d_D_psr_74 ?_
  refine lv_aload_n hx hb d_D_psr_75 rfl (lv_at hl 0 rfl) ?_
  refine va_get (D := D) (ci := 6) (v := .int (st.1 6)) (C := "WindowMachineModel") (T := T_D) (N := 31) hx hb ht zi_D hown hK hP 0 rfl rfl 14 (by decide) (ht _ zw_868) (fun _ h9 => h9) rfl d_D_psr_76 ?_
  refine lv_ior hx hb d_D_psr_79 ?_
  exact zl_i (u := ()) hx hb hr hlocks hS hP hD (by simp only [m_psr, ← er_1, ← er_2, ← er_3, ← er_4, ← er_5, ← er_6, ← er_7]) d_D_psr_80
