theorem zB_in (a b c : Int64) : zB (m_in a b c) := by
  unfold m_in
  dsimp only
  exact zB_ite zB0 (zB_ite zB0 zB1)
theorem d_D_isDigit_0 : decode c_D_isDigit 0 = .ok (.aload_n 0, 1) := by decide +kernel
theorem d_D_isDigit_1 : decode c_D_isDigit 1 = .ok (.invokevirtual 416, 3) := by decide +kernel
theorem d_D_isDigit_4 : decode c_D_isDigit 4 = .ok (.i2l, 1) := by decide +kernel
theorem d_D_isDigit_5 : decode c_D_isDigit 5 = .ok (.ldc2_w 419, 3) := by decide +kernel
theorem d_D_isDigit_8 : decode c_D_isDigit 8 = .ok (.ldc2_w 421, 3) := by decide +kernel
theorem d_D_isDigit_11 : decode c_D_isDigit 11 = .ok (.invokestatic 282, 3) := by decide +kernel
theorem d_D_isDigit_14 : decode c_D_isDigit 14 = .ok (.ireturn, 1) := by decide +kernel
theorem kd_D_isDigit : (y_D_isDigit).cls = "WindowMachineModel" ∧ (y_D_isDigit).cls ≠ "java/lang/invoke/MethodHandle" ∧ (y_D_isDigit).cls ≠ "java/lang/invoke/VarHandle" ∧ (parseMethodDescriptor (y_D_isDigit).desc).map (fun d => d.parameters.length) = some 0 := by decide +kernel
def m_isDigit (st : SD) : Int32 := (let r_1 := m_here st; (let r_2 := m_in r_1.toInt64 (48 : Int64) (57 : Int64); r_2))
set_option maxHeartbeats 4000000 in
set_option maxRecDepth 100000 in
theorem mt_D_isDigit (l : Launch) (D : va_G) (h : Nat → Nat) (c : Nat → ClassId) (sz : Nat) (st : SD) (hA9 : 0 ≤ (st.1 3).toInt ∧ (st.1 1).toInt ≤ 40) : Met l y_D_isDigit w_D_isDigit ({ frames := 1, cells := 0, slots := 0, locals := 25 }) (va_Pc [.ref (h 20)] (zw_pre D vwCl [(c 21, .long), (c 22, .int), (c 23, .int), (c 24, .int), (c 25, .int), (c 26, .int), (c 27, .int), (c 28, .int)] sz (wD h c st) (fun _ => True))) (va_Qi (fun r (_ : Unit) => r = m_isDigit st) (fun u t => zw_at D vwCl (va_A (wD h c st) sz) ((fun (_ : Unit) => wD h c st) u) t) (va_A (wD h c st) sz)) 0 0 (va_A (wD h c st) sz) := by
  refine zm (Qf := fun A => va_Qi (fun r (_ : Unit) => r = m_isDigit st) (fun u t => zw_at D vwCl A ((fun (_ : Unit) => wD h c st) u) t) A) (Zf := fun _ _ => True) (cc := c_D_isDigit) (nL := 1) (ret := (some .boolean)) (by decide) rfl (Nat.le_of_ble_eq_true rfl) ?_
  intro p e s m below meth c9 A H locs ls hx hb hml hown hts hr hlocks hA hK hP hD hS hZ hl
  have hl : lv_has ls 1 [(0, .ref (h 20))] := hl
  have ht : ∀ w9 ∈ zT, w9.before _ s = true := fun w9 h9 => hts w9 (List.mem_cons_of_mem _ h9)
  refine lv_aload_n hx hb d_D_isDigit_0 rfl (lv_at hl 0 rfl) ?_
  refine zc_i (w2 := fun _ => wD h c st) (va_runV (As := []) (rest := []) ⟨hx, hb, hml, hown, ht⟩ (mt_D_here l D h c H.size st hA9) (cwV 0 ht (zgV zw_1122 zw_1124 zs_77 zw_7 zw_1125) rfl rfl rfl kd_D_here ⟨Nat.le_of_ble_eq_true rfl, Nat.le_of_ble_eq_true rfl⟩) ⟨zw_blind zw_tt, va_recv (hK.sub (tys' := [(c 21, .long), (c 22, .int), (c 23, .int), (c 24, .int), (c 25, .int), (c 26, .int), (c 27, .int), (c 28, .int)]) [0, 1, 2, 3, 4, 5, 6, 7] rfl) (hP.sub (ws' := wD h c st) [0, 1, 2, 3, 4, 5, 6, 7, 8] rfl) (ci := 6) (q0 := 0) rfl rfl, zw_go (hP.sub (ws' := wD h c st) [0, 1, 2, 3, 4, 5, 6, 7, 8] rfl) (hD.sub (ws' := wD h c st) [0, 1, 2, 3, 4, 5, 6, 7, 8] (by decide) rfl) (hK.sub (tys' := [(c 21, .long), (c 22, .int), (c 23, .int), (c 24, .int), (c 25, .int), (c 26, .int), (c 27, .int), (c 28, .int)]) [0, 1, 2, 3, 4, 5, 6, 7] rfl) (fun _ _ _ => trivial)⟩ rfl rfl hl.1 rfl (lv_room (Nat.le_of_ble_eq_true rfl)) d_D_isDigit_1 ⟨Nat.le_of_ble_eq_true rfl, Nat.le_of_ble_eq_true rfl⟩) hP hD hS hA [0, 1, 2, 3, 4, 5, 6, 7, 8] [] [0, 1, 2, 3, 4, 5, 6, 7, 8] rfl rfl (by decide) (by decide) (by decide) (fun _ => rfl) (fun r_1 _ H locs hw hP hD hS => ?_)
  have er_1 := hw
  refine lv_i2l (v := r_1.toInt64) hx hb d_D_isDigit_4 rfl ?_
  refine lv_ldc2 (v := (48 : Int64)) hx hb hown (ht _ zw_1135) d_D_isDigit_5 ?_
  refine lv_ldc2 (v := (57 : Int64)) hx hb hown (ht _ zw_1136) d_D_isDigit_8 ?_
  refine zc_i (w2 := fun _ => wD h c st) (va_runS (As := [.long r_1.toInt64, .long (48 : Int64), .long (57 : Int64)]) (rest := []) ⟨hx, hb, hml, hown, ht⟩ (mt_D_in l D H.size r_1.toInt64 (48 : Int64) (57 : Int64)) (cwS 3 ht (zgS zw_961 zw_962 zw_7 zw_963) rfl rfl rfl kd_D_in ⟨Nat.le_of_ble_eq_true rfl, Nat.le_of_ble_eq_true rfl⟩) ⟨zw_blind zw_tt, zw_go (hP.sub (ws' := []) [] rfl) (hD.sub (ws' := []) [] (by decide) rfl) (hK.sub (tys' := []) [] rfl) (fun _ _ _ => trivial)⟩ rfl rfl hl.1 rfl (lv_room (Nat.le_of_ble_eq_true rfl)) d_D_isDigit_11 ⟨Nat.le_of_ble_eq_true rfl, Nat.le_of_ble_eq_true rfl⟩) hP hD hS hA [] [0, 1, 2, 3, 4, 5, 6, 7, 8] [0, 1, 2, 3, 4, 5, 6, 7, 8] rfl rfl (by decide) (by decide) (by decide) (fun _ => rfl) (fun r_2 _ H locs hw hP hD hS => ?_)
  have er_2 := hw
  exact zl_z (u := ()) hx hb hr (show zB r_2 by rw [er_2]; exact zB_in _ _ _).n hlocks hS hP hD (by simp only [m_isDigit, ← er_1, ← er_2]) d_D_isDigit_14
theorem d_D_must_0 : decode c_D_must 0 = .ok (.aload_n 0, 1) := by decide +kernel
theorem d_D_must_1 : decode c_D_must 1 = .ok (.invokevirtual 416, 3) := by decide +kernel
theorem d_D_must_4 : decode c_D_must 4 = .ok (.iload_n 1, 1) := by decide +kernel
theorem d_D_must_5 : decode c_D_must 5 = .ok (.if_icmp .eq 11, 3) := by decide +kernel
theorem d_D_must_8 : decode c_D_must 8 = .ok (.aload_n 0, 1) := by decide +kernel
theorem d_D_must_9 : decode c_D_must 9 = .ok (.aload_n 0, 1) := by decide +kernel
theorem d_D_must_10 : decode c_D_must 10 = .ok (.getfield 413, 3) := by decide +kernel
theorem d_D_must_13 : decode c_D_must 13 = .ok (.invokevirtual 423, 3) := by decide +kernel
theorem d_D_must_16 : decode c_D_must 16 = .ok (.aload_n 0, 1) := by decide +kernel
theorem d_D_must_17 : decode c_D_must 17 = .ok (.dup, 1) := by decide +kernel
theorem d_D_must_18 : decode c_D_must 18 = .ok (.getfield 413, 3) := by decide +kernel
theorem d_D_must_21 : decode c_D_must 21 = .ok (.iconst 1, 1) := by decide +kernel
theorem d_D_must_22 : decode c_D_must 22 = .ok (.iadd, 1) := by decide +kernel
theorem d_D_must_23 : decode c_D_must 23 = .ok (.putfield 413, 3) := by decide +kernel
theorem d_D_must_26 : decode c_D_must 26 = .ok (.return_, 1) := by decide +kernel
theorem kd_D_must : (y_D_must).cls = "WindowMachineModel" ∧ (y_D_must).cls ≠ "java/lang/invoke/MethodHandle" ∧ (y_D_must).cls ≠ "java/lang/invoke/VarHandle" ∧ (parseMethodDescriptor (y_D_must).desc).map (fun d => d.parameters.length) = some 1 := by decide +kernel
def m_must (st : SD) (p0 : Int32) : SD := (let r_1 := m_here st; (let u_2 := (if r_1 = p0 then st else m_wrong st (st.1 3)); (upd u_2.1 3 ((u_2.1 3) + (1 : Int32)), u_2.2.1, u_2.2.2.1, u_2.2.2.2.1, u_2.2.2.2.2.1, u_2.2.2.2.2.2)))
set_option maxHeartbeats 4000000 in
set_option maxRecDepth 100000 in
theorem mt_D_must (l : Launch) (D : va_G) (h : Nat → Nat) (c : Nat → ClassId) (sz : Nat) (st : SD) (p0 : Int32) (hA9 : 0 ≤ (st.1 3).toInt ∧ (st.1 1).toInt ≤ 40) : Met l y_D_must w_D_must ({ frames := 1, cells := 0, slots := 0, locals := 21 }) (va_Pc [.ref (h 20), .int p0] (zw_pre D vwCl [(c 21, .long), (c 22, .int), (c 23, .int), (c 24, .int), (c 25, .int), (c 26, .int), (c 27, .int), (c 28, .int)] sz (wD h c st) (fun _ => True))) (va_Qv (fun (u : SD) => u = m_must st p0) (fun u t => zw_at D vwCl (va_A (wD h c st) sz) ((fun (u : SD) => wD h c u) u) t) (va_A (wD h c st) sz)) 0 0 (va_A (wD h c st) sz) := by
  refine zm (Qf := fun A => va_Qv (fun (u : SD) => u = m_must st p0) (fun u t => zw_at D vwCl A ((fun (u : SD) => wD h c u) u) t) A) (Zf := fun _ _ => True) (cc := c_D_must) (nL := 2) (ret := none) (by decide) rfl (Nat.le_of_ble_eq_true rfl) ?_
  intro p e s m below meth c9 A H locs ls hx hb hml hown hts hr hlocks hA hK hP hD hS hZ hl
  have hl : lv_has ls 2 [(0, .ref (h 20)), (1, .int p0)] := hl
  have ht : ∀ w9 ∈ zT, w9.before _ s = true := fun w9 h9 => hts w9 (List.mem_cons_of_mem _ h9)
  refine lv_aload_n hx hb d_D_must_0 rfl (lv_at hl 0 rfl) ?_
  refine zc_i (w2 := fun _ => wD h c st) (va_runV (As := []) (rest := []) ⟨hx, hb, hml, hown, ht⟩ (mt_D_here l D h c H.size st hA9) (cwV 0 ht (zgV zw_1122 zw_1124 zs_77 zw_7 zw_1125) rfl rfl rfl kd_D_here ⟨Nat.le_of_ble_eq_true rfl, Nat.le_of_ble_eq_true rfl⟩) ⟨zw_blind zw_tt, va_recv (hK.sub (tys' := [(c 21, .long), (c 22, .int), (c 23, .int), (c 24, .int), (c 25, .int), (c 26, .int), (c 27, .int), (c 28, .int)]) [0, 1, 2, 3, 4, 5, 6, 7] rfl) (hP.sub (ws' := wD h c st) [0, 1, 2, 3, 4, 5, 6, 7, 8] rfl) (ci := 6) (q0 := 0) rfl rfl, zw_go (hP.sub (ws' := wD h c st) [0, 1, 2, 3, 4, 5, 6, 7, 8] rfl) (hD.sub (ws' := wD h c st) [0, 1, 2, 3, 4, 5, 6, 7, 8] (by decide) rfl) (hK.sub (tys' := [(c 21, .long), (c 22, .int), (c 23, .int), (c 24, .int), (c 25, .int), (c 26, .int), (c 27, .int), (c 28, .int)]) [0, 1, 2, 3, 4, 5, 6, 7] rfl) (fun _ _ _ => trivial)⟩ rfl rfl hl.1 rfl (lv_room (Nat.le_of_ble_eq_true rfl)) d_D_must_1 ⟨Nat.le_of_ble_eq_true rfl, Nat.le_of_ble_eq_true rfl⟩) hP hD hS hA [0, 1, 2, 3, 4, 5, 6, 7, 8] [] [0, 1, 2, 3, 4, 5, 6, 7, 8] rfl rfl (by decide) (by decide) (by decide) (fun _ => rfl) (fun r_1 _ H locs hw hP hD hS => ?_)
  have er_1 := hw
  refine lv_iload_n hx hb d_D_must_4 rfl (lv_at hl 1 rfl) ?_
  refine zcut (X := SD) (G := fun v9 H locs ls => v9 = (if r_1 = p0 then st else m_wrong st (st.1 3)) ∧ va_P D vwCl (wD h c v9) H ∧ va_D A (wD h c v9) ∧ va_S A s.heap H locs ∧ lv_has ls 2 [(0, .ref (h 20)), (1, .int p0)]) (fr := fun v9 ls => F0 m 16 ls []) (fun J_3 => ?_) (fun v9 H locs ls hG => ?_)
  · refine lv_icmp_eq (tgt := 16) hx hb d_D_must_5 (by decide) (fun c_4 => ?_) (fun c_4 => ?_)
    · exact J_3 st _ _ _ ⟨by simp only [if_pos c_4], hP, hD, hS, hl⟩
    refine lv_aload_n hx hb d_D_must_8 rfl (lv_at hl 0 rfl) ?_
    refine lv_aload_n hx hb d_D_must_9 rfl (lv_at hl 0 rfl) ?_
    refine va_get (D := D) (ci := 6) (v := .int (st.1 3)) (C := "WindowMachineModel") (T := T_D) (N := 31) hx hb ht zi_D hown hK hP 0 rfl rfl 6 (by decide) (ht _ zw_860) (fun _ h9 => h9) rfl d_D_must_10 ?_
    refine zc_v (w2 := fun u9 => wD h c u9) (va_runV (As := [.int (st.1 3)]) (rest := []) ⟨hx, hb, hml, hown, ht⟩ (mt_D_wrong l D h c H.size st (st.1 3)) (cwV 1 ht (zgV zw_1114 zw_1116 zs_75 zw_7 zw_1117) rfl rfl rfl kd_D_wrong ⟨Nat.le_of_ble_eq_true rfl, Nat.le_of_ble_eq_true rfl⟩) ⟨zw_blind zw_tt, va_recv (hK.sub (tys' := [(c 21, .long), (c 22, .int), (c 23, .int), (c 24, .int), (c 25, .int), (c 26, .int), (c 27, .int), (c 28, .int)]) [0, 1, 2, 3, 4, 5, 6, 7] rfl) (hP.sub (ws' := wD h c st) [0, 1, 2, 3, 4, 5, 6, 7, 8] rfl) (ci := 6) (q0 := 0) rfl rfl, zw_go (hP.sub (ws' := wD h c st) [0, 1, 2, 3, 4, 5, 6, 7, 8] rfl) (hD.sub (ws' := wD h c st) [0, 1, 2, 3, 4, 5, 6, 7, 8] (by decide) rfl) (hK.sub (tys' := [(c 21, .long), (c 22, .int), (c 23, .int), (c 24, .int), (c 25, .int), (c 26, .int), (c 27, .int), (c 28, .int)]) [0, 1, 2, 3, 4, 5, 6, 7] rfl) (fun _ _ _ => trivial)⟩ rfl rfl hl.1 rfl (lv_room (Nat.le_of_ble_eq_true rfl)) d_D_must_13 ⟨Nat.le_of_ble_eq_true rfl, Nat.le_of_ble_eq_true rfl⟩) hP hD hS hA [0, 1, 2, 3, 4, 5, 6, 7, 8] [] [0, 1, 2, 3, 4, 5, 6, 7, 8] rfl rfl (by decide) (by decide) (by decide) (fun _ => rfl) (fun u_5 H locs hw hP hD hS => ?_)
    subst hw
    exact J_3 (m_wrong st (st.1 3)) _ _ _ ⟨by simp only [if_neg c_4], hP, hD, hS, hl⟩
  obtain ⟨u_2, rfl⟩ : ∃ z, z = v9 := ⟨_, rfl⟩
  obtain ⟨eu_2, hP, hD, hS, hl⟩ := hG
  refine lv_aload_n hx hb d_D_must_16 rfl (lv_at hl 0 rfl) ?_
  refine lv_dup hx hb d_D_must_17 rfl ?_
  refine va_get (D := D) (ci := 6) (v := .int (u_2.1 3)) (C := "WindowMachineModel") (T := T_D) (N := 31) hx hb ht zi_D hown hK hP 0 rfl rfl 6 (by decide) (ht _ zw_860) (fun _ h9 => h9) rfl d_D_must_18 ?_
  refine lv_iconst (v := (1 : Int32)) hx hb d_D_must_21 (by decide) ?_
  refine lv_iadd hx hb d_D_must_22 ?_
  refine va_put (D := D) (ci := 6) (v := .int ((u_2.1 3) + (1 : Int32))) (ty := .int) (C := "WindowMachineModel") (T := T_D) (N := 31) hx hb ht zi_D ty_D tyok_D nm_D hown hK hP hD hS 0 rfl rfl 6 (by decide) (ht _ zw_860) (fun _ h9 => h9) rfl (by decide +kernel) rfl rfl (Nat.le_of_ble_eq_true rfl) d_D_must_23 (fun H locs hP hD hS => ?_)
  have hP : va_P D vwCl (wD h c (upd u_2.1 3 ((u_2.1 3) + (1 : Int32)), u_2.2.1, u_2.2.2.1, u_2.2.2.2.1, u_2.2.2.2.2.1, u_2.2.2.2.2.2)) H := hP
  have hD : va_D A (wD h c (upd u_2.1 3 ((u_2.1 3) + (1 : Int32)), u_2.2.1, u_2.2.2.1, u_2.2.2.2.1, u_2.2.2.2.2.1, u_2.2.2.2.2.2)) := hD
  exact zl_v (u := (upd u_2.1 3 ((u_2.1 3) + (1 : Int32)), u_2.2.1, u_2.2.2.1, u_2.2.2.2.1, u_2.2.2.2.2.1, u_2.2.2.2.2.2)) hx hb hr hlocks hS hP hD (by simp only [m_must, ← er_1, ← eu_2]) d_D_must_26
