theorem d_D_adds_0 : decode c_D_adds 0 = .ok (.iload_n 2, 1) := by decide +kernel
theorem d_D_adds_1 : decode c_D_adds 1 = .ok (.iload_n 3, 1) := by decide +kernel
theorem d_D_adds_2 : decode c_D_adds 2 = .ok (.iadd, 1) := by decide +kernel
theorem d_D_adds_3 : decode c_D_adds 3 = .ok (.iload 4, 2) := by decide +kernel
theorem d_D_adds_5 : decode c_D_adds 5 = .ok (.iadd, 1) := by decide +kernel
theorem d_D_adds_6 : decode c_D_adds 6 = .ok (.istore 6, 2) := by decide +kernel
theorem d_D_adds_8 : decode c_D_adds 8 = .ok (.iload 5, 2) := by decide +kernel
theorem d_D_adds_10 : decode c_D_adds 10 = .ok (.ifCond .eq 52, 3) := by decide +kernel
theorem d_D_adds_13 : decode c_D_adds 13 = .ok (.aload_n 0, 1) := by decide +kernel
theorem d_D_adds_14 : decode c_D_adds 14 = .ok (.iload 6, 2) := by decide +kernel
theorem d_D_adds_16 : decode c_D_adds 16 = .ok (.i2l, 1) := by decide +kernel
theorem d_D_adds_17 : decode c_D_adds 17 = .ok (.iload_n 2, 1) := by decide +kernel
theorem d_D_adds_18 : decode c_D_adds 18 = .ok (.iload 6, 2) := by decide +kernel
theorem d_D_adds_20 : decode c_D_adds 20 = .ok (.ixor, 1) := by decide +kernel
theorem d_D_adds_21 : decode c_D_adds 21 = .ok (.iload_n 3, 1) := by decide +kernel
theorem d_D_adds_22 : decode c_D_adds 22 = .ok (.iload 6, 2) := by decide +kernel
theorem d_D_adds_24 : decode c_D_adds 24 = .ok (.ixor, 1) := by decide +kernel
theorem d_D_adds_25 : decode c_D_adds 25 = .ok (.iand, 1) := by decide +kernel
theorem d_D_adds_26 : decode c_D_adds 26 = .ok (.ifCond .ge 7, 3) := by decide +kernel
theorem d_D_adds_29 : decode c_D_adds 29 = .ok (.iconst 1, 1) := by decide +kernel
theorem d_D_adds_30 : decode c_D_adds 30 = .ok (.goto 4, 3) := by decide +kernel
theorem d_D_adds_33 : decode c_D_adds 33 = .ok (.iconst 0, 1) := by decide +kernel
theorem d_D_adds_34 : decode c_D_adds 34 = .ok (.iload_n 2, 1) := by decide +kernel
theorem d_D_adds_35 : decode c_D_adds 35 = .ok (.invokestatic 326, 3) := by decide +kernel
theorem d_D_adds_38 : decode c_D_adds 38 = .ok (.iload_n 3, 1) := by decide +kernel
theorem d_D_adds_39 : decode c_D_adds 39 = .ok (.invokestatic 326, 3) := by decide +kernel
theorem d_D_adds_42 : decode c_D_adds 42 = .ok (.ladd, 1) := by decide +kernel
theorem d_D_adds_43 : decode c_D_adds 43 = .ok (.iload 4, 2) := by decide +kernel
theorem d_D_adds_45 : decode c_D_adds 45 = .ok (.i2l, 1) := by decide +kernel
theorem d_D_adds_46 : decode c_D_adds 46 = .ok (.ladd, 1) := by decide +kernel
theorem d_D_adds_47 : decode c_D_adds 47 = .ok (.ldc2_w 315, 3) := by decide +kernel
theorem d_D_adds_50 : decode c_D_adds 50 = .ok (.lcmp, 1) := by decide +kernel
theorem d_D_adds_51 : decode c_D_adds 51 = .ok (.ifCond .le 7, 3) := by decide +kernel
theorem d_D_adds_54 : decode c_D_adds 54 = .ok (.iconst 1, 1) := by decide +kernel
theorem d_D_adds_55 : decode c_D_adds 55 = .ok (.goto 4, 3) := by decide +kernel
theorem d_D_adds_58 : decode c_D_adds 58 = .ok (.iconst 0, 1) := by decide +kernel
theorem d_D_adds_59 : decode c_D_adds 59 = .ok (.invokevirtual 330, 3) := by decide +kernel
theorem d_D_adds_62 : decode c_D_adds 62 = .ok (.aload_n 0, 1) := by decide +kernel
theorem d_D_adds_63 : decode c_D_adds 63 = .ok (.iload_n 1, 1) := by decide +kernel
theorem d_D_adds_64 : decode c_D_adds 64 = .ok (.aload_n 0, 1) := by decide +kernel
theorem d_D_adds_65 : decode c_D_adds 65 = .ok (.getfield 237, 3) := by decide +kernel
theorem d_D_adds_68 : decode c_D_adds 68 = .ok (.iload 6, 2) := by decide +kernel
theorem d_D_adds_70 : decode c_D_adds 70 = .ok (.invokevirtual 309, 3) := by decide +kernel
theorem d_D_adds_73 : decode c_D_adds 73 = .ok (.return_, 1) := by decide +kernel
theorem kd_D_adds : (y_D_adds).cls = "WindowMachineModel" ∧ (y_D_adds).cls ≠ "java/lang/invoke/MethodHandle" ∧ (y_D_adds).cls ≠ "java/lang/invoke/VarHandle" ∧ (parseMethodDescriptor (y_D_adds).desc).map (fun d => d.parameters.length) = some 5 := by decide +kernel
def m_adds (st : SD) (p0 : Int32) (p1 : Int32) (p2 : Int32) (p3 : Int32) (p4 : Int32) : SD := (let u_1 := (if p4 = (0 : Int32) then st else m_flags st (((p1 + p2) + p3).toInt64) (if (0 : Int32) ≤ ((p1 ^^^ ((p1 + p2) + p3)) &&& (p2 ^^^ ((p1 + p2) + p3))) then (0 : Int32) else (1 : Int32)) (if (lg_cmp (((m_bare p1) + (m_bare p2)) + p3.toInt64) (4294967295 : Int64)) ≤ (0 : Int32) then (0 : Int32) else (1 : Int32))); (let u_13 := m_gives u_1 p0 (u_1.1 6) ((p1 + p2) + p3); u_13))
set_option maxHeartbeats 4000000 in
set_option maxRecDepth 100000 in
theorem mt_D_adds (l : Launch) (D : va_G) (h : Nat → Nat) (c : Nat → ClassId) (sz : Nat) (st : SD) (p0 : Int32) (p1 : Int32) (p2 : Int32) (p3 : Int32) (p4 : Int32) (hV : okV st) (hr9 : vp_in p0 32) : Met l y_D_adds w_D_adds ({ frames := 1, cells := 0, slots := 0, locals := 24 }) (va_Pc [.ref (h 20), .int p0, .int p1, .int p2, .int p3, .int p4] (zw_pre D vwCl [(c 21, .long), (c 22, .int), (c 23, .int), (c 24, .int), (c 25, .int), (c 26, .int), (c 27, .int), (c 28, .int)] sz (wD h c st) (fun _ => True))) (va_Qv (fun (u : SD) => u = m_adds st p0 p1 p2 p3 p4) (fun u t => zw_at D vwCl (va_A (wD h c st) sz) ((fun (u : SD) => wD h c u) u) t) (va_A (wD h c st) sz)) 0 0 (va_A (wD h c st) sz) := by
  refine zm (Qf := fun A => va_Qv (fun (u : SD) => u = m_adds st p0 p1 p2 p3 p4) (fun u t => zw_at D vwCl A ((fun (u : SD) => wD h c u) u) t) A) (Zf := fun _ _ => True) (cc := c_D_adds) (nL := 7) (ret := none) (by decide) rfl (Nat.le_of_ble_eq_true rfl) ?_
  intro p e s m below meth c9 A H locs ls hx hb hml hown hts hr hlocks hA hK hP hD hS hZ hl
  have hl : lv_has ls 7 [(0, .ref (h 20)), (1, .int p0), (2, .int p1), (3, .int p2), (4, .int p3), (5, .int p4)] := hl
  have ht : ∀ w9 ∈ zT, w9.before _ s = true := fun w9 h9 => hts w9 (List.mem_cons_of_mem _ h9)
  refine lv_iload_n hx hb d_D_adds_0 rfl (lv_at hl 2 rfl) ?_
  refine lv_iload_n hx hb d_D_adds_1 rfl (lv_at hl 3 rfl) ?_
  refine lv_iadd hx hb d_D_adds_2 ?_
  refine lv_iload hx hb d_D_adds_3 (lv_at hl 4 rfl) ?_
  refine lv_iadd hx hb d_D_adds_5 ?_
  refine lv_istore (lv' := [(6, .int ((p1 + p2) + p3)), (0, .ref (h 20)), (1, .int p0), (2, .int p1), (3, .int p2), (4, .int p3), (5, .int p4)]) hx hb d_D_adds_6 hl (by decide) rfl (fun ls hl => ?_)
  refine lv_iload hx hb d_D_adds_8 (lv_at hl 6 rfl) ?_
  refine zcut (X := SD) (G := fun v9 H locs ls => v9 = (if p4 = (0 : Int32) then st else m_flags st (((p1 + p2) + p3).toInt64) (if (0 : Int32) ≤ ((p1 ^^^ ((p1 + p2) + p3)) &&& (p2 ^^^ ((p1 + p2) + p3))) then (0 : Int32) else (1 : Int32)) (if (lg_cmp (((m_bare p1) + (m_bare p2)) + p3.toInt64) (4294967295 : Int64)) ≤ (0 : Int32) then (0 : Int32) else (1 : Int32))) ∧ va_P D vwCl (wD h c v9) H ∧ va_D A (wD h c v9) ∧ va_S A s.heap H locs ∧ lv_has ls 7 [(0, .ref (h 20)), (1, .int p0), (2, .int p1), (3, .int p2), (4, .int p3), (5, .int p4), (6, .int ((p1 + p2) + p3))]) (fr := fun v9 ls => F0 m 62 ls []) (fun J_2 => ?_) (fun v9 H locs ls hG => ?_)
  · refine lv_if_eq (tgt := 62) hx hb d_D_adds_10 (by decide) (fun c_3 => ?_) (fun c_3 => ?_)
    · exact J_2 st _ _ _ ⟨by simp only [if_pos c_3], hP, hD, hS, (lv_sub hl [1, 2, 3, 4, 5, 6, 0] rfl)⟩
    refine lv_aload_n hx hb d_D_adds_13 rfl (lv_at hl 1 rfl) ?_
    refine lv_iload hx hb d_D_adds_14 (lv_at hl 0 rfl) ?_
    refine lv_i2l (v := ((p1 + p2) + p3).toInt64) hx hb d_D_adds_16 rfl ?_
    refine lv_iload_n hx hb d_D_adds_17 rfl (lv_at hl 3 rfl) ?_
    refine lv_iload hx hb d_D_adds_18 (lv_at hl 0 rfl) ?_
    refine lv_ixor hx hb d_D_adds_20 ?_
    refine lv_iload_n hx hb d_D_adds_21 rfl (lv_at hl 4 rfl) ?_
    refine lv_iload hx hb d_D_adds_22 (lv_at hl 0 rfl) ?_
    refine lv_ixor hx hb d_D_adds_24 ?_
    refine lv_iand hx hb d_D_adds_25 ?_
    refine zcut (X := Int32) (G := fun v9 H locs ls => v9 = (if (0 : Int32) ≤ ((p1 ^^^ ((p1 + p2) + p3)) &&& (p2 ^^^ ((p1 + p2) + p3))) then (0 : Int32) else (1 : Int32)) ∧ va_P D vwCl (wD h c st) H ∧ va_D A (wD h c st) ∧ va_S A s.heap H locs ∧ lv_has ls 7 [(0, .ref (h 20)), (1, .int p0), (2, .int p1), (3, .int p2), (4, .int p3), (5, .int p4), (6, .int ((p1 + p2) + p3))]) (fr := fun v9 ls => F0 m 34 ls [.int v9, .long (((p1 + p2) + p3).toInt64), .ref (h 20)]) (fun J_5 => ?_) (fun v9 H locs ls hG => ?_)
    · refine lv_if_ge (tgt := 33) hx hb d_D_adds_26 (by decide) (fun c_6 => ?_) (fun c_6 => ?_)
      · refine lv_iconst (v := (0 : Int32)) hx hb d_D_adds_33 (by decide) ?_
        exact J_5 (0 : Int32) _ _ _ ⟨by simp only [if_pos c_6], hP, hD, hS, (lv_sub hl [1, 2, 3, 4, 5, 6, 0] rfl)⟩
      refine lv_iconst (v := (1 : Int32)) hx hb d_D_adds_29 (by decide) ?_
      refine lv_goto (tgt := 34) hx hb d_D_adds_30 (by decide) ?_
      exact J_5 (1 : Int32) _ _ _ ⟨by simp only [if_neg c_6], hP, hD, hS, (lv_sub hl [1, 2, 3, 4, 5, 6, 0] rfl)⟩
    obtain ⟨x_4, rfl⟩ : ∃ z, z = v9 := ⟨_, rfl⟩
    obtain ⟨ex_4, hP, hD, hS, hl⟩ := hG
    subst ex_4
    refine lv_iload_n hx hb d_D_adds_34 rfl (lv_at hl 2 rfl) ?_
    refine zc_l (w2 := fun _ => wD h c st) (va_runS (As := [.int p1]) (rest := [.int (if (0 : Int32) ≤ ((p1 ^^^ ((p1 + p2) + p3)) &&& (p2 ^^^ ((p1 + p2) + p3))) then (0 : Int32) else (1 : Int32)), .long (((p1 + p2) + p3).toInt64), .ref (h 20)]) ⟨hx, hb, hml, hown, ht⟩ (mt_D_bare l D H.size p1) (cwS 1 ht (zgS zw_1035 zw_1036 zw_7 zw_1037) rfl rfl rfl kd_D_bare ⟨Nat.le_of_ble_eq_true rfl, Nat.le_of_ble_eq_true rfl⟩) ⟨zw_blind zw_tt, zw_go (hP.sub (ws' := []) [] rfl) (hD.sub (ws' := []) [] (by decide) rfl) (hK.sub (tys' := []) [] rfl) (fun _ _ _ => trivial)⟩ rfl rfl hl.1 rfl (lv_room (Nat.le_of_ble_eq_true rfl)) d_D_adds_35 ⟨Nat.le_of_ble_eq_true rfl, Nat.le_of_ble_eq_true rfl⟩) hP hD hS hA [] [0, 1, 2, 3, 4, 5, 6, 7, 8] [0, 1, 2, 3, 4, 5, 6, 7, 8] rfl rfl (by decide) (by decide) (by decide) (fun _ => rfl) (fun r_7 _ H locs hw hP hD hS => ?_)
    subst hw
    refine lv_iload_n hx hb d_D_adds_38 rfl (lv_at hl 3 rfl) ?_
    refine zc_l (w2 := fun _ => wD h c st) (va_runS (As := [.int p2]) (rest := [.long (m_bare p1), .int (if (0 : Int32) ≤ ((p1 ^^^ ((p1 + p2) + p3)) &&& (p2 ^^^ ((p1 + p2) + p3))) then (0 : Int32) else (1 : Int32)), .long (((p1 + p2) + p3).toInt64), .ref (h 20)]) ⟨hx, hb, hml, hown, ht⟩ (mt_D_bare l D H.size p2) (cwS 1 ht (zgS zw_1035 zw_1036 zw_7 zw_1037) rfl rfl rfl kd_D_bare ⟨Nat.le_of_ble_eq_true rfl, Nat.le_of_ble_eq_true rfl⟩) ⟨zw_blind zw_tt, zw_go (hP.sub (ws' := []) [] rfl) (hD.sub (ws' := []) [] (by decide) rfl) (hK.sub (tys' := []) [] rfl) (fun _ _ _ => trivial)⟩ rfl rfl hl.1 rfl (lv_room (Nat.le_of_ble_eq_true rfl)) d_D_adds_39 ⟨Nat.le_of_ble_eq_true rfl, Nat.le_of_ble_eq_true rfl⟩) hP hD hS hA [] [0, 1, 2, 3, 4, 5, 6, 7, 8] [0, 1, 2, 3, 4, 5, 6, 7, 8] rfl rfl (by decide) (by decide) (by decide) (fun _ => rfl) (fun r_8 _ H locs hw hP hD hS => ?_)
    subst hw
    refine lv_ladd hx hb d_D_adds_42 ?_
    refine lv_iload hx hb d_D_adds_43 (lv_at hl 4 rfl) ?_
    refine lv_i2l (v := p3.toInt64) hx hb d_D_adds_45 rfl ?_
    refine lv_ladd hx hb d_D_adds_46 ?_
    refine lv_ldc2 (v := (4294967295 : Int64)) hx hb hown (ht _ zw_1038) d_D_adds_47 ?_
    refine W.lcmp hx hb d_D_adds_50 ?_
    refine zcut (X := Int32) (G := fun v9 H locs ls => v9 = (if (lg_cmp (((m_bare p1) + (m_bare p2)) + p3.toInt64) (4294967295 : Int64)) ≤ (0 : Int32) then (0 : Int32) else (1 : Int32)) ∧ va_P D vwCl (wD h c st) H ∧ va_D A (wD h c st) ∧ va_S A s.heap H locs ∧ lv_has ls 7 [(0, .ref (h 20)), (1, .int p0), (2, .int p1), (3, .int p2), (4, .int p3), (5, .int p4), (6, .int ((p1 + p2) + p3))]) (fr := fun v9 ls => F0 m 59 ls [.int v9, .int (if (0 : Int32) ≤ ((p1 ^^^ ((p1 + p2) + p3)) &&& (p2 ^^^ ((p1 + p2) + p3))) then (0 : Int32) else (1 : Int32)), .long (((p1 + p2) + p3).toInt64), .ref (h 20)]) (fun J_10 => ?_) (fun v9 H locs ls hG => ?_)
    · refine lv_if_le (tgt := 58) hx hb d_D_adds_51 (by decide) (fun c_11 => ?_) (fun c_11 => ?_)
      · refine lv_iconst (v := (0 : Int32)) hx hb d_D_adds_58 (by decide) ?_
        exact J_10 (0 : Int32) _ _ _ ⟨by simp only [if_pos c_11], hP, hD, hS, hl⟩
      refine lv_iconst (v := (1 : Int32)) hx hb d_D_adds_54 (by decide) ?_
      refine lv_goto (tgt := 59) hx hb d_D_adds_55 (by decide) ?_
      exact J_10 (1 : Int32) _ _ _ ⟨by simp only [if_neg c_11], hP, hD, hS, hl⟩
    obtain ⟨x_9, rfl⟩ : ∃ z, z = v9 := ⟨_, rfl⟩
    obtain ⟨ex_9, hP, hD, hS, hl⟩ := hG
    subst ex_9
    refine zc_v (w2 := fun u9 => wD h c u9) (va_runV (As := [.long (((p1 + p2) + p3).toInt64), .int (if (0 : Int32) ≤ ((p1 ^^^ ((p1 + p2) + p3)) &&& (p2 ^^^ ((p1 + p2) + p3))) then (0 : Int32) else (1 : Int32)), .int (if (lg_cmp (((m_bare p1) + (m_bare p2)) + p3.toInt64) (4294967295 : Int64)) ≤ (0 : Int32) then (0 : Int32) else (1 : Int32))]) (rest := []) ⟨hx, hb, hml, hown, ht⟩ (mt_D_flags l D h c H.size st (((p1 + p2) + p3).toInt64) (if (0 : Int32) ≤ ((p1 ^^^ ((p1 + p2) + p3)) &&& (p2 ^^^ ((p1 + p2) + p3))) then (0 : Int32) else (1 : Int32)) (if (lg_cmp (((m_bare p1) + (m_bare p2)) + p3.toInt64) (4294967295 : Int64)) ≤ (0 : Int32) then (0 : Int32) else (1 : Int32)) (by repeat' first | exact zB0 | exact zB1 | assumption | apply zB_ite) (by repeat' first | exact zB0 | exact zB1 | assumption | apply zB_ite)) (cwV 3 ht (zgV zw_1039 zw_1041 zs_66 zw_7 zw_1042) rfl rfl rfl kd_D_flags ⟨Nat.le_of_ble_eq_true rfl, Nat.le_of_ble_eq_true rfl⟩) ⟨zw_blind zw_tt, va_recv (hK.sub (tys' := [(c 21, .long), (c 22, .int), (c 23, .int), (c 24, .int), (c 25, .int), (c 26, .int), (c 27, .int), (c 28, .int)]) [0, 1, 2, 3, 4, 5, 6, 7] rfl) (hP.sub (ws' := wD h c st) [0, 1, 2, 3, 4, 5, 6, 7, 8] rfl) (ci := 6) (q0 := 0) rfl rfl, zw_go (hP.sub (ws' := wD h c st) [0, 1, 2, 3, 4, 5, 6, 7, 8] rfl) (hD.sub (ws' := wD h c st) [0, 1, 2, 3, 4, 5, 6, 7, 8] (by decide) rfl) (hK.sub (tys' := [(c 21, .long), (c 22, .int), (c 23, .int), (c 24, .int), (c 25, .int), (c 26, .int), (c 27, .int), (c 28, .int)]) [0, 1, 2, 3, 4, 5, 6, 7] rfl) (fun _ _ _ => trivial)⟩ rfl rfl hl.1 rfl (lv_room (Nat.le_of_ble_eq_true rfl)) d_D_adds_59 ⟨Nat.le_of_ble_eq_true rfl, Nat.le_of_ble_eq_true rfl⟩) hP hD hS hA [0, 1, 2, 3, 4, 5, 6, 7, 8] [] [0, 1, 2, 3, 4, 5, 6, 7, 8] rfl rfl (by decide) (by decide) (by decide) (fun _ => rfl) (fun u_12 H locs hw hP hD hS => ?_)
    subst hw
    exact J_2 (m_flags st (((p1 + p2) + p3).toInt64) (if (0 : Int32) ≤ ((p1 ^^^ ((p1 + p2) + p3)) &&& (p2 ^^^ ((p1 + p2) + p3))) then (0 : Int32) else (1 : Int32)) (if (lg_cmp (((m_bare p1) + (m_bare p2)) + p3.toInt64) (4294967295 : Int64)) ≤ (0 : Int32) then (0 : Int32) else (1 : Int32))) _ _ _ ⟨by simp only [if_neg c_3], hP, hD, hS, hl⟩
  obtain ⟨u_1, rfl⟩ : ∃ z, z = v9 := ⟨_, rfl⟩
  obtain ⟨eu_1, hP, hD, hS, hl⟩ := hG
  have ok_1 : okV u_1 := by rw [eu_1]; exact (okV_iteD (fun c_1 => hV) (fun c_1 => (ov_flags hV)))
  refine lv_aload_n hx hb d_D_adds_62 rfl (lv_at hl 0 rfl) ?_
  refine lv_iload_n hx hb d_D_adds_63 rfl (lv_at hl 1 rfl) ?_
  refine lv_aload_n hx hb d_D_adds_64 rfl (lv_at hl 0 rfl) ?_
  refine va_get (D := D) (ci := 6) (v := .int (u_1.1 6)) (C := "WindowMachineModel") (T := T_D) (N := 31) hx hb ht zi_D hown hK hP 0 rfl rfl 14 (by decide) (ht _ zw_868) (fun _ h9 => h9) rfl d_D_adds_65 ?_
  refine lv_iload hx hb d_D_adds_68 (lv_at hl 6 rfl) ?_
  refine zc_v (w2 := fun u9 => wD h c u9) (va_runV (As := [.int p0, .int (u_1.1 6), .int ((p1 + p2) + p3)]) (rest := []) ⟨hx, hb, hml, hown, ht⟩ (mt_D_gives l D h c H.size u_1 p0 (u_1.1 6) ((p1 + p2) + p3) hr9 (ok_1).1) (cwV 3 ht (zgV zw_990 zw_992 zs_57 zw_7 zw_993) rfl rfl rfl kd_D_gives ⟨Nat.le_of_ble_eq_true rfl, Nat.le_of_ble_eq_true rfl⟩) ⟨zw_blind zw_tt, va_recv (hK.sub (tys' := [(c 21, .long), (c 22, .int), (c 23, .int), (c 24, .int), (c 25, .int), (c 26, .int), (c 27, .int), (c 28, .int)]) [0, 1, 2, 3, 4, 5, 6, 7] rfl) (hP.sub (ws' := wD h c u_1) [0, 1, 2, 3, 4, 5, 6, 7, 8] rfl) (ci := 6) (q0 := 0) rfl rfl, zw_go (hP.sub (ws' := wD h c u_1) [0, 1, 2, 3, 4, 5, 6, 7, 8] rfl) (hD.sub (ws' := wD h c u_1) [0, 1, 2, 3, 4, 5, 6, 7, 8] (by decide) rfl) (hK.sub (tys' := [(c 21, .long), (c 22, .int), (c 23, .int), (c 24, .int), (c 25, .int), (c 26, .int), (c 27, .int), (c 28, .int)]) [0, 1, 2, 3, 4, 5, 6, 7] rfl) (fun _ _ _ => trivial)⟩ rfl rfl hl.1 rfl (lv_room (Nat.le_of_ble_eq_true rfl)) d_D_adds_70 ⟨Nat.le_of_ble_eq_true rfl, Nat.le_of_ble_eq_true rfl⟩) hP hD hS hA [0, 1, 2, 3, 4, 5, 6, 7, 8] [] [0, 1, 2, 3, 4, 5, 6, 7, 8] rfl rfl (by decide) (by decide) (by decide) (fun _ => rfl) (fun u_13 H locs hw hP hD hS => ?_)
  have eu_13 := hw
  have ok_13 : okV u_13 := by rw [eu_13]; exact (ov_gives ok_1)
  exact zl_v (u := u_13) hx hb hr hlocks hS hP hD (by simp only [m_adds, ← eu_1, ← eu_13]) d_D_adds_73
theorem d_D_takes_0 : decode c_D_takes 0 = .ok (.iload_n 2, 1) := by decide +kernel
theorem d_D_takes_1 : decode c_D_takes 1 = .ok (.iload_n 3, 1) := by decide +kernel
theorem d_D_takes_2 : decode c_D_takes 2 = .ok (.isub, 1) := by decide +kernel
theorem d_D_takes_3 : decode c_D_takes 3 = .ok (.iload 4, 2) := by decide +kernel
theorem d_D_takes_5 : decode c_D_takes 5 = .ok (.isub, 1) := by decide +kernel
theorem d_D_takes_6 : decode c_D_takes 6 = .ok (.istore 6, 2) := by decide +kernel
theorem d_D_takes_8 : decode c_D_takes 8 = .ok (.iload 5, 2) := by decide +kernel
theorem d_D_takes_10 : decode c_D_takes 10 = .ok (.ifCond .eq 47, 3) := by decide +kernel
theorem d_D_takes_13 : decode c_D_takes 13 = .ok (.aload_n 0, 1) := by decide +kernel
theorem d_D_takes_14 : decode c_D_takes 14 = .ok (.iload 6, 2) := by decide +kernel
theorem d_D_takes_16 : decode c_D_takes 16 = .ok (.i2l, 1) := by decide +kernel
theorem d_D_takes_17 : decode c_D_takes 17 = .ok (.iload_n 2, 1) := by decide +kernel
theorem d_D_takes_18 : decode c_D_takes 18 = .ok (.iload_n 3, 1) := by decide +kernel
theorem d_D_takes_19 : decode c_D_takes 19 = .ok (.ixor, 1) := by decide +kernel
theorem d_D_takes_20 : decode c_D_takes 20 = .ok (.iload_n 2, 1) := by decide +kernel
theorem d_D_takes_21 : decode c_D_takes 21 = .ok (.iload 6, 2) := by decide +kernel
theorem d_D_takes_23 : decode c_D_takes 23 = .ok (.ixor, 1) := by decide +kernel
theorem d_D_takes_24 : decode c_D_takes 24 = .ok (.iand, 1) := by decide +kernel
theorem d_D_takes_25 : decode c_D_takes 25 = .ok (.ifCond .ge 7, 3) := by decide +kernel
theorem d_D_takes_28 : decode c_D_takes 28 = .ok (.iconst 1, 1) := by decide +kernel
theorem d_D_takes_29 : decode c_D_takes 29 = .ok (.goto 4, 3) := by decide +kernel
theorem d_D_takes_32 : decode c_D_takes 32 = .ok (.iconst 0, 1) := by decide +kernel
theorem d_D_takes_33 : decode c_D_takes 33 = .ok (.iload_n 2, 1) := by decide +kernel
theorem d_D_takes_34 : decode c_D_takes 34 = .ok (.invokestatic 326, 3) := by decide +kernel
theorem d_D_takes_37 : decode c_D_takes 37 = .ok (.iload_n 3, 1) := by decide +kernel
theorem d_D_takes_38 : decode c_D_takes 38 = .ok (.invokestatic 326, 3) := by decide +kernel
theorem d_D_takes_41 : decode c_D_takes 41 = .ok (.iload 4, 2) := by decide +kernel
theorem d_D_takes_43 : decode c_D_takes 43 = .ok (.i2l, 1) := by decide +kernel
theorem d_D_takes_44 : decode c_D_takes 44 = .ok (.ladd, 1) := by decide +kernel
theorem d_D_takes_45 : decode c_D_takes 45 = .ok (.lcmp, 1) := by decide +kernel
theorem d_D_takes_46 : decode c_D_takes 46 = .ok (.ifCond .ge 7, 3) := by decide +kernel
theorem d_D_takes_49 : decode c_D_takes 49 = .ok (.iconst 1, 1) := by decide +kernel
theorem d_D_takes_50 : decode c_D_takes 50 = .ok (.goto 4, 3) := by decide +kernel
theorem d_D_takes_53 : decode c_D_takes 53 = .ok (.iconst 0, 1) := by decide +kernel
theorem d_D_takes_54 : decode c_D_takes 54 = .ok (.invokevirtual 330, 3) := by decide +kernel
theorem d_D_takes_57 : decode c_D_takes 57 = .ok (.aload_n 0, 1) := by decide +kernel
theorem d_D_takes_58 : decode c_D_takes 58 = .ok (.iload_n 1, 1) := by decide +kernel
theorem d_D_takes_59 : decode c_D_takes 59 = .ok (.aload_n 0, 1) := by decide +kernel
theorem d_D_takes_60 : decode c_D_takes 60 = .ok (.getfield 237, 3) := by decide +kernel
theorem d_D_takes_63 : decode c_D_takes 63 = .ok (.iload 6, 2) := by decide +kernel
theorem d_D_takes_65 : decode c_D_takes 65 = .ok (.invokevirtual 309, 3) := by decide +kernel
theorem d_D_takes_68 : decode c_D_takes 68 = .ok (.return_, 1) := by decide +kernel
theorem kd_D_takes : (y_D_takes).cls = "WindowMachineModel" ∧ (y_D_takes).cls ≠ "java/lang/invoke/MethodHandle" ∧ (y_D_takes).cls ≠ "java/lang/invoke/VarHandle" ∧ (parseMethodDescriptor (y_D_takes).desc).map (fun d => d.parameters.length) = some 5 := by decide +kernel
def m_takes (st : SD) (p0 : Int32) (p1 : Int32) (p2 : Int32) (p3 : Int32) (p4 : Int32) : SD := (let u_1 := (if p4 = (0 : Int32) then st else m_flags st (((p1 - p2) - p3).toInt64) (if (0 : Int32) ≤ ((p1 ^^^ p2) &&& (p1 ^^^ ((p1 - p2) - p3))) then (0 : Int32) else (1 : Int32)) (if (0 : Int32) ≤ (lg_cmp (m_bare p1) ((m_bare p2) + p3.toInt64)) then (0 : Int32) else (1 : Int32))); (let u_13 := m_gives u_1 p0 (u_1.1 6) ((p1 - p2) - p3); u_13))
set_option maxHeartbeats 4000000 in
set_option maxRecDepth 100000 in
theorem mt_D_takes (l : Launch) (D : va_G) (h : Nat → Nat) (c : Nat → ClassId) (sz : Nat) (st : SD) (p0 : Int32) (p1 : Int32) (p2 : Int32) (p3 : Int32) (p4 : Int32) (hV : okV st) (hr9 : vp_in p0 32) : Met l y_D_takes w_D_takes ({ frames := 1, cells := 0, slots := 0, locals := 24 }) (va_Pc [.ref (h 20), .int p0, .int p1, .int p2, .int p3, .int p4] (zw_pre D vwCl [(c 21, .long), (c 22, .int), (c 23, .int), (c 24, .int), (c 25, .int), (c 26, .int), (c 27, .int), (c 28, .int)] sz (wD h c st) (fun _ => True))) (va_Qv (fun (u : SD) => u = m_takes st p0 p1 p2 p3 p4) (fun u t => zw_at D vwCl (va_A (wD h c st) sz) ((fun (u : SD) => wD h c u) u) t) (va_A (wD h c st) sz)) 0 0 (va_A (wD h c st) sz) := by
  refine zm (Qf := fun A => va_Qv (fun (u : SD) => u = m_takes st p0 p1 p2 p3 p4) (fun u t => zw_at D vwCl A ((fun (u : SD) => wD h c u) u) t) A) (Zf := fun _ _ => True) (cc := c_D_takes) (nL := 7) (ret := none) (by decide) rfl (Nat.le_of_ble_eq_true rfl) ?_
  intro p e s m below meth c9 A H locs ls hx hb hml hown hts hr hlocks hA hK hP hD hS hZ hl
  have hl : lv_has ls 7 [(0, .ref (h 20)), (1, .int p0), (2, .int p1), (3, .int p2), (4, .int p3), (5, .int p4)] := hl
  have ht : ∀ w9 ∈ zT, w9.before _ s = true := fun w9 h9 => hts w9 (List.mem_cons_of_mem _ h9)
  refine lv_iload_n hx hb d_D_takes_0 rfl (lv_at hl 2 rfl) ?_
  refine lv_iload_n hx hb d_D_takes_1 rfl (lv_at hl 3 rfl) ?_
  refine lv_isub hx hb d_D_takes_2 ?_
  refine lv_iload hx hb d_D_takes_3 (lv_at hl 4 rfl) ?_
  refine lv_isub hx hb d_D_takes_5 ?_
  refine lv_istore (lv' := [(6, .int ((p1 - p2) - p3)), (0, .ref (h 20)), (1, .int p0), (2, .int p1), (3, .int p2), (4, .int p3), (5, .int p4)]) hx hb d_D_takes_6 hl (by decide) rfl (fun ls hl => ?_)
  refine lv_iload hx hb d_D_takes_8 (lv_at hl 6 rfl) ?_
  refine zcut (X := SD) (G := fun v9 H locs ls => v9 = (if p4 = (0 : Int32) then st else m_flags st (((p1 - p2) - p3).toInt64) (if (0 : Int32) ≤ ((p1 ^^^ p2) &&& (p1 ^^^ ((p1 - p2) - p3))) then (0 : Int32) else (1 : Int32)) (if (0 : Int32) ≤ (lg_cmp (m_bare p1) ((m_bare p2) + p3.toInt64)) then (0 : Int32) else (1 : Int32))) ∧ va_P D vwCl (wD h c v9) H ∧ va_D A (wD h c v9) ∧ va_S A s.heap H locs ∧ lv_has ls 7 [(0, .ref (h 20)), (1, .int p0), (2, .int p1), (3, .int p2), (4, .int p3), (5, .int p4), (6, .int ((p1 - p2) - p3))]) (fr := fun v9 ls => F0 m 57 ls []) (fun J_2 => ?_) (fun v9 H locs ls hG => ?_)
  · refine lv_if_eq (tgt := 57) hx hb d_D_takes_10 (by decide) (fun c_3 => ?_) (fun c_3 => ?_)
    · exact J_2 st _ _ _ ⟨by simp only [if_pos c_3], hP, hD, hS, (lv_sub hl [1, 2, 3, 4, 5, 6, 0] rfl)⟩
    refine lv_aload_n hx hb d_D_takes_13 rfl (lv_at hl 1 rfl) ?_
    refine lv_iload hx hb d_D_takes_14 (lv_at hl 0 rfl) ?_
    refine lv_i2l (v := ((p1 - p2) - p3).toInt64) hx hb d_D_takes_16 rfl ?_
    refine lv_iload_n hx hb d_D_takes_17 rfl (lv_at hl 3 rfl) ?_
    refine lv_iload_n hx hb d_D_takes_18 rfl (lv_at hl 4 rfl) ?_
    refine lv_ixor hx hb d_D_takes_19 ?_
    refine lv_iload_n hx hb d_D_takes_20 rfl (lv_at hl 3 rfl) ?_
    refine lv_iload hx hb d_D_takes_21 (lv_at hl 0 rfl) ?_
    refine lv_ixor hx hb d_D_takes_23 ?_
    refine lv_iand hx hb d_D_takes_24 ?_
    refine zcut (X := Int32) (G := fun v9 H locs ls => v9 = (if (0 : Int32) ≤ ((p1 ^^^ p2) &&& (p1 ^^^ ((p1 - p2) - p3))) then (0 : Int32) else (1 : Int32)) ∧ va_P D vwCl (wD h c st) H ∧ va_D A (wD h c st) ∧ va_S A s.heap H locs ∧ lv_has ls 7 [(0, .ref (h 20)), (1, .int p0), (2, .int p1), (3, .int p2), (4, .int p3), (5, .int p4), (6, .int ((p1 - p2) - p3))]) (fr := fun v9 ls => F0 m 33 ls [.int v9, .long (((p1 - p2) - p3).toInt64), .ref (h 20)]) (fun J_5 => ?_) (fun v9 H locs ls hG => ?_)
    · refine lv_if_ge (tgt := 32) hx hb d_D_takes_25 (by decide) (fun c_6 => ?_) (fun c_6 => ?_)
      · refine lv_iconst (v := (0 : Int32)) hx hb d_D_takes_32 (by decide) ?_
        exact J_5 (0 : Int32) _ _ _ ⟨by simp only [if_pos c_6], hP, hD, hS, (lv_sub hl [1, 2, 3, 4, 5, 6, 0] rfl)⟩
      refine lv_iconst (v := (1 : Int32)) hx hb d_D_takes_28 (by decide) ?_
      refine lv_goto (tgt := 33) hx hb d_D_takes_29 (by decide) ?_
      exact J_5 (1 : Int32) _ _ _ ⟨by simp only [if_neg c_6], hP, hD, hS, (lv_sub hl [1, 2, 3, 4, 5, 6, 0] rfl)⟩
    obtain ⟨x_4, rfl⟩ : ∃ z, z = v9 := ⟨_, rfl⟩
    obtain ⟨ex_4, hP, hD, hS, hl⟩ := hG
    subst ex_4
    refine lv_iload_n hx hb d_D_takes_33 rfl (lv_at hl 2 rfl) ?_
    refine zc_l (w2 := fun _ => wD h c st) (va_runS (As := [.int p1]) (rest := [.int (if (0 : Int32) ≤ ((p1 ^^^ p2) &&& (p1 ^^^ ((p1 - p2) - p3))) then (0 : Int32) else (1 : Int32)), .long (((p1 - p2) - p3).toInt64), .ref (h 20)]) ⟨hx, hb, hml, hown, ht⟩ (mt_D_bare l D H.size p1) (cwS 1 ht (zgS zw_1035 zw_1036 zw_7 zw_1037) rfl rfl rfl kd_D_bare ⟨Nat.le_of_ble_eq_true rfl, Nat.le_of_ble_eq_true rfl⟩) ⟨zw_blind zw_tt, zw_go (hP.sub (ws' := []) [] rfl) (hD.sub (ws' := []) [] (by decide) rfl) (hK.sub (tys' := []) [] rfl) (fun _ _ _ => trivial)⟩ rfl rfl hl.1 rfl (lv_room (Nat.le_of_ble_eq_true rfl)) d_D_takes_34 ⟨Nat.le_of_ble_eq_true rfl, Nat.le_of_ble_eq_true rfl⟩) hP hD hS hA [] [0, 1, 2, 3, 4, 5, 6, 7, 8] [0, 1, 2, 3, 4, 5, 6, 7, 8] rfl rfl (by decide) (by decide) (by decide) (fun _ => rfl) (fun r_7 _ H locs hw hP hD hS => ?_)
    subst hw
    refine lv_iload_n hx hb d_D_takes_37 rfl (lv_at hl 3 rfl) ?_
    refine zc_l (w2 := fun _ => wD h c st) (va_runS (As := [.int p2]) (rest := [.long (m_bare p1), .int (if (0 : Int32) ≤ ((p1 ^^^ p2) &&& (p1 ^^^ ((p1 - p2) - p3))) then (0 : Int32) else (1 : Int32)), .long (((p1 - p2) - p3).toInt64), .ref (h 20)]) ⟨hx, hb, hml, hown, ht⟩ (mt_D_bare l D H.size p2) (cwS 1 ht (zgS zw_1035 zw_1036 zw_7 zw_1037) rfl rfl rfl kd_D_bare ⟨Nat.le_of_ble_eq_true rfl, Nat.le_of_ble_eq_true rfl⟩) ⟨zw_blind zw_tt, zw_go (hP.sub (ws' := []) [] rfl) (hD.sub (ws' := []) [] (by decide) rfl) (hK.sub (tys' := []) [] rfl) (fun _ _ _ => trivial)⟩ rfl rfl hl.1 rfl (lv_room (Nat.le_of_ble_eq_true rfl)) d_D_takes_38 ⟨Nat.le_of_ble_eq_true rfl, Nat.le_of_ble_eq_true rfl⟩) hP hD hS hA [] [0, 1, 2, 3, 4, 5, 6, 7, 8] [0, 1, 2, 3, 4, 5, 6, 7, 8] rfl rfl (by decide) (by decide) (by decide) (fun _ => rfl) (fun r_8 _ H locs hw hP hD hS => ?_)
    subst hw
    refine lv_iload hx hb d_D_takes_41 (lv_at hl 4 rfl) ?_
    refine lv_i2l (v := p3.toInt64) hx hb d_D_takes_43 rfl ?_
    refine lv_ladd hx hb d_D_takes_44 ?_
    refine W.lcmp hx hb d_D_takes_45 ?_
    refine zcut (X := Int32) (G := fun v9 H locs ls => v9 = (if (0 : Int32) ≤ (lg_cmp (m_bare p1) ((m_bare p2) + p3.toInt64)) then (0 : Int32) else (1 : Int32)) ∧ va_P D vwCl (wD h c st) H ∧ va_D A (wD h c st) ∧ va_S A s.heap H locs ∧ lv_has ls 7 [(0, .ref (h 20)), (1, .int p0), (2, .int p1), (3, .int p2), (4, .int p3), (5, .int p4), (6, .int ((p1 - p2) - p3))]) (fr := fun v9 ls => F0 m 54 ls [.int v9, .int (if (0 : Int32) ≤ ((p1 ^^^ p2) &&& (p1 ^^^ ((p1 - p2) - p3))) then (0 : Int32) else (1 : Int32)), .long (((p1 - p2) - p3).toInt64), .ref (h 20)]) (fun J_10 => ?_) (fun v9 H locs ls hG => ?_)
    · refine lv_if_ge (tgt := 53) hx hb d_D_takes_46 (by decide) (fun c_11 => ?_) (fun c_11 => ?_)
      · refine lv_iconst (v := (0 : Int32)) hx hb d_D_takes_53 (by decide) ?_
        exact J_10 (0 : Int32) _ _ _ ⟨by simp only [if_pos c_11], hP, hD, hS, hl⟩
      refine lv_iconst (v := (1 : Int32)) hx hb d_D_takes_49 (by decide) ?_
      refine lv_goto (tgt := 54) hx hb d_D_takes_50 (by decide) ?_
      exact J_10 (1 : Int32) _ _ _ ⟨by simp only [if_neg c_11], hP, hD, hS, hl⟩
    obtain ⟨x_9, rfl⟩ : ∃ z, z = v9 := ⟨_, rfl⟩
    obtain ⟨ex_9, hP, hD, hS, hl⟩ := hG
    subst ex_9
    refine zc_v (w2 := fun u9 => wD h c u9) (va_runV (As := [.long (((p1 - p2) - p3).toInt64), .int (if (0 : Int32) ≤ ((p1 ^^^ p2) &&& (p1 ^^^ ((p1 - p2) - p3))) then (0 : Int32) else (1 : Int32)), .int (if (0 : Int32) ≤ (lg_cmp (m_bare p1) ((m_bare p2) + p3.toInt64)) then (0 : Int32) else (1 : Int32))]) (rest := []) ⟨hx, hb, hml, hown, ht⟩ (mt_D_flags l D h c H.size st (((p1 - p2) - p3).toInt64) (if (0 : Int32) ≤ ((p1 ^^^ p2) &&& (p1 ^^^ ((p1 - p2) - p3))) then (0 : Int32) else (1 : Int32)) (if (0 : Int32) ≤ (lg_cmp (m_bare p1) ((m_bare p2) + p3.toInt64)) then (0 : Int32) else (1 : Int32)) (by repeat' first | exact zB0 | exact zB1 | assumption | apply zB_ite) (by repeat' first | exact zB0 | exact zB1 | assumption | apply zB_ite)) (cwV 3 ht (zgV zw_1039 zw_1041 zs_66 zw_7 zw_1042) rfl rfl rfl kd_D_flags ⟨Nat.le_of_ble_eq_true rfl, Nat.le_of_ble_eq_true rfl⟩) ⟨zw_blind zw_tt, va_recv (hK.sub (tys' := [(c 21, .long), (c 22, .int), (c 23, .int), (c 24, .int), (c 25, .int), (c 26, .int), (c 27, .int), (c 28, .int)]) [0, 1, 2, 3, 4, 5, 6, 7] rfl) (hP.sub (ws' := wD h c st) [0, 1, 2, 3, 4, 5, 6, 7, 8] rfl) (ci := 6) (q0 := 0) rfl rfl, zw_go (hP.sub (ws' := wD h c st) [0, 1, 2, 3, 4, 5, 6, 7, 8] rfl) (hD.sub (ws' := wD h c st) [0, 1, 2, 3, 4, 5, 6, 7, 8] (by decide) rfl) (hK.sub (tys' := [(c 21, .long), (c 22, .int), (c 23, .int), (c 24, .int), (c 25, .int), (c 26, .int), (c 27, .int), (c 28, .int)]) [0, 1, 2, 3, 4, 5, 6, 7] rfl) (fun _ _ _ => trivial)⟩ rfl rfl hl.1 rfl (lv_room (Nat.le_of_ble_eq_true rfl)) d_D_takes_54 ⟨Nat.le_of_ble_eq_true rfl, Nat.le_of_ble_eq_true rfl⟩) hP hD hS hA [0, 1, 2, 3, 4, 5, 6, 7, 8] [] [0, 1, 2, 3, 4, 5, 6, 7, 8] rfl rfl (by decide) (by decide) (by decide) (fun _ => rfl) (fun u_12 H locs hw hP hD hS => ?_)
    subst hw
    exact J_2 (m_flags st (((p1 - p2) - p3).toInt64) (if (0 : Int32) ≤ ((p1 ^^^ p2) &&& (p1 ^^^ ((p1 - p2) - p3))) then (0 : Int32) else (1 : Int32)) (if (0 : Int32) ≤ (lg_cmp (m_bare p1) ((m_bare p2) + p3.toInt64)) then (0 : Int32) else (1 : Int32))) _ _ _ ⟨by simp only [if_neg c_3], hP, hD, hS, hl⟩
  obtain ⟨u_1, rfl⟩ : ∃ z, z = v9 := ⟨_, rfl⟩
  obtain ⟨eu_1, hP, hD, hS, hl⟩ := hG
  have ok_1 : okV u_1 := by rw [eu_1]; exact (okV_iteD (fun c_1 => hV) (fun c_1 => (ov_flags hV)))
  refine lv_aload_n hx hb d_D_takes_57 rfl (lv_at hl 0 rfl) ?_
  refine lv_iload_n hx hb d_D_takes_58 rfl (lv_at hl 1 rfl) ?_
  refine lv_aload_n hx hb d_D_takes_59 rfl (lv_at hl 0 rfl) ?_
  refine va_get (D := D) (ci := 6) (v := .int (u_1.1 6)) (C := "WindowMachineModel") (T := T_D) (N := 31) hx hb ht zi_D hown hK hP 0 rfl rfl 14 (by decide) (ht _ zw_868) (fun _ h9 => h9) rfl d_D_takes_60 ?_
  refine lv_iload hx hb d_D_takes_63 (lv_at hl 6 rfl) ?_
  refine zc_v (w2 := fun u9 => wD h c u9) (va_runV (As := [.int p0, .int (u_1.1 6), .int ((p1 - p2) - p3)]) (rest := []) ⟨hx, hb, hml, hown, ht⟩ (mt_D_gives l D h c H.size u_1 p0 (u_1.1 6) ((p1 - p2) - p3) hr9 (ok_1).1) (cwV 3 ht (zgV zw_990 zw_992 zs_57 zw_7 zw_993) rfl rfl rfl kd_D_gives ⟨Nat.le_of_ble_eq_true rfl, Nat.le_of_ble_eq_true rfl⟩) ⟨zw_blind zw_tt, va_recv (hK.sub (tys' := [(c 21, .long), (c 22, .int), (c 23, .int), (c 24, .int), (c 25, .int), (c 26, .int), (c 27, .int), (c 28, .int)]) [0, 1, 2, 3, 4, 5, 6, 7] rfl) (hP.sub (ws' := wD h c u_1) [0, 1, 2, 3, 4, 5, 6, 7, 8] rfl) (ci := 6) (q0 := 0) rfl rfl, zw_go (hP.sub (ws' := wD h c u_1) [0, 1, 2, 3, 4, 5, 6, 7, 8] rfl) (hD.sub (ws' := wD h c u_1) [0, 1, 2, 3, 4, 5, 6, 7, 8] (by decide) rfl) (hK.sub (tys' := [(c 21, .long), (c 22, .int), (c 23, .int), (c 24, .int), (c 25, .int), (c 26, .int), (c 27, .int), (c 28, .int)]) [0, 1, 2, 3, 4, 5, 6, 7] rfl) (fun _ _ _ => trivial)⟩ rfl rfl hl.1 rfl (lv_room (Nat.le_of_ble_eq_true rfl)) d_D_takes_65 ⟨Nat.le_of_ble_eq_true rfl, Nat.le_of_ble_eq_true rfl⟩) hP hD hS hA [0, 1, 2, 3, 4, 5, 6, 7, 8] [] [0, 1, 2, 3, 4, 5, 6, 7, 8] rfl rfl (by decide) (by decide) (by decide) (fun _ => rfl) (fun u_13 H locs hw hP hD hS => ?_)
  have eu_13 := hw
  have ok_13 : okV u_13 := by rw [eu_13]; exact (ov_gives ok_1)
  exact zl_v (u := u_13) hx hb hr hlocks hS hP hD (by simp only [m_takes, ← eu_1, ← eu_13]) d_D_takes_68
