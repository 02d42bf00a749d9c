theorem in_nat {p : Int32} {k : Nat} {hi : Int64} (hk : hi.toInt = k) (hk2 : k < 2 ^ 30) (h : ¬ m_in p.toInt64 (0 : Int64) hi = (0 : Int32)) : vp_in p (k + 1) := by
  have b := in_of h
  rw [Int32.toInt_toInt64] at b
  have e0 : (0 : Int64).toInt = 0 := by decide
  rw [e0, hk] at b
  exact vp_in_iff.mpr ⟨b.1, by omega⟩
theorem sr_r {st : SD} {w n r x f : Int32} (er : r = m_in n.toInt64 (0 : Int64) (31 : Int64)) (ex : x = (if r = (0 : Int32) then (1 : Int32) else (if (m_in w.toInt64 (0 : Int64) (3 : Int64)) = (0 : Int32) then (1 : Int32) else (0 : Int32)))) (ef : f = (m_fails st x (1 : Int32)).1) (c : f = (0 : Int32)) : vp_in n 32 := by
  have q := fl_no (by decide) (ef.symm.trans c)
  have hr : ¬ r = (0 : Int32) := fun z => by rw [ex, if_pos z] at q; exact absurd q (by decide)
  rw [er] at hr
  exact in_nat (k := 31) (by decide) (by decide) hr
theorem sr_w {st : SD} {w n r x f : Int32} (er : r = m_in n.toInt64 (0 : Int64) (31 : Int64)) (ex : x = (if r = (0 : Int32) then (1 : Int32) else (if (m_in w.toInt64 (0 : Int64) (3 : Int64)) = (0 : Int32) then (1 : Int32) else (0 : Int32)))) (ef : f = (m_fails st x (1 : Int32)).1) (c : f = (0 : Int32)) : vp_in w 4 := by
  have q := fl_no (by decide) (ef.symm.trans c)
  have hr : ¬ r = (0 : Int32) := fun z => by rw [ex, if_pos z] at q; exact absurd q (by decide)
  have hw : ¬ m_in w.toInt64 (0 : Int64) (3 : Int64) = (0 : Int32) := fun z => by rw [ex, if_neg hr, if_pos z] at q; exact absurd q (by decide)
  exact in_nat (k := 3) (by decide) (by decide) hw
theorem d_D_set_0 : decode c_D_set 0 = .ok (.aload_n 0, 1) := by decide +kernel
theorem d_D_set_1 : decode c_D_set 1 = .ok (.iconst 0, 1) := by decide +kernel
theorem d_D_set_2 : decode c_D_set 2 = .ok (.putfield 228, 3) := by decide +kernel
theorem d_D_set_5 : decode c_D_set 5 = .ok (.aload_n 0, 1) := by decide +kernel
theorem d_D_set_6 : decode c_D_set 6 = .ok (.iload_n 2, 1) := by decide +kernel
theorem d_D_set_7 : decode c_D_set 7 = .ok (.i2l, 1) := by decide +kernel
theorem d_D_set_8 : decode c_D_set 8 = .ok (.lconst 0, 1) := by decide +kernel
theorem d_D_set_9 : decode c_D_set 9 = .ok (.ldc2_w 302, 3) := by decide +kernel
theorem d_D_set_12 : decode c_D_set 12 = .ok (.invokestatic 282, 3) := by decide +kernel
theorem d_D_set_15 : decode c_D_set 15 = .ok (.ifCond .eq 15, 3) := by decide +kernel
theorem d_D_set_18 : decode c_D_set 18 = .ok (.iload_n 1, 1) := by decide +kernel
theorem d_D_set_19 : decode c_D_set 19 = .ok (.i2l, 1) := by decide +kernel
theorem d_D_set_20 : decode c_D_set 20 = .ok (.lconst 0, 1) := by decide +kernel
theorem d_D_set_21 : decode c_D_set 21 = .ok (.ldc2_w 304, 3) := by decide +kernel
theorem d_D_set_24 : decode c_D_set 24 = .ok (.invokestatic 282, 3) := by decide +kernel
theorem d_D_set_27 : decode c_D_set 27 = .ok (.ifCond .ne 7, 3) := by decide +kernel
theorem d_D_set_30 : decode c_D_set 30 = .ok (.iconst 1, 1) := by decide +kernel
theorem d_D_set_31 : decode c_D_set 31 = .ok (.goto 4, 3) := by decide +kernel
theorem d_D_set_34 : decode c_D_set 34 = .ok (.iconst 0, 1) := by decide +kernel
theorem d_D_set_35 : decode c_D_set 35 = .ok (.iconst 1, 1) := by decide +kernel
theorem d_D_set_36 : decode c_D_set 36 = .ok (.invokevirtual 290, 3) := by decide +kernel
theorem d_D_set_39 : decode c_D_set 39 = .ok (.ifCond .eq 5, 3) := by decide +kernel
theorem d_D_set_42 : decode c_D_set 42 = .ok (.iconst 0, 1) := by decide +kernel
theorem d_D_set_43 : decode c_D_set 43 = .ok (.ireturn, 1) := by decide +kernel
theorem d_D_set_44 : decode c_D_set 44 = .ok (.aload_n 0, 1) := by decide +kernel
theorem d_D_set_45 : decode c_D_set 45 = .ok (.iload_n 2, 1) := by decide +kernel
theorem d_D_set_46 : decode c_D_set 46 = .ok (.iload_n 1, 1) := by decide +kernel
theorem d_D_set_47 : decode c_D_set 47 = .ok (.invokevirtual 306, 3) := by decide +kernel
theorem d_D_set_50 : decode c_D_set 50 = .ok (.istore 4, 2) := by decide +kernel
theorem d_D_set_52 : decode c_D_set 52 = .ok (.aload_n 0, 1) := by decide +kernel
theorem d_D_set_53 : decode c_D_set 53 = .ok (.iload_n 2, 1) := by decide +kernel
theorem d_D_set_54 : decode c_D_set 54 = .ok (.iload_n 1, 1) := by decide +kernel
theorem d_D_set_55 : decode c_D_set 55 = .ok (.iload_n 3, 1) := by decide +kernel
theorem d_D_set_56 : decode c_D_set 56 = .ok (.invokevirtual 309, 3) := by decide +kernel
theorem d_D_set_59 : decode c_D_set 59 = .ok (.iload 4, 2) := by decide +kernel
theorem d_D_set_61 : decode c_D_set 61 = .ok (.ireturn, 1) := by decide +kernel
theorem kd_D_set : (y_D_set).cls = "WindowMachineModel" ∧ (y_D_set).cls ≠ "java/lang/invoke/MethodHandle" ∧ (y_D_set).cls ≠ "java/lang/invoke/VarHandle" ∧ (parseMethodDescriptor (y_D_set).desc).map (fun d => d.parameters.length) = some 3 := by decide +kernel
def m_set (st : SD) (p0 : Int32) (p1 : Int32) (p2 : Int32) : Int32 × SD := (let r_1 := m_in p1.toInt64 (0 : Int64) (31 : Int64); (let x_2 := (if r_1 = (0 : Int32) then (1 : Int32) else (if (m_in p0.toInt64 (0 : Int64) (3 : Int64)) = (0 : Int32) then (1 : Int32) else (0 : Int32))); (let r_7 := (m_fails (upd st.1 0 (0 : Int32), st.2.1, st.2.2.1, st.2.2.2.1, st.2.2.2.2.1, st.2.2.2.2.2) x_2 (1 : Int32)).1; (let u_7 := (m_fails (upd st.1 0 (0 : Int32), st.2.1, st.2.2.1, st.2.2.2.1, st.2.2.2.2.1, st.2.2.2.2.2) x_2 (1 : Int32)).2; (if r_7 = (0 : Int32) then (let r_9 := m_get u_7 p1 p0; (let u_10 := m_gives u_7 p1 p0 p2; (r_9, u_10))) else ((0 : Int32), u_7))))))
set_option maxHeartbeats 4000000 in
set_option maxRecDepth 100000 in
theorem mt_D_set (l : Launch) (D : va_G) (h : Nat → Nat) (c : Nat → ClassId) (sz : Nat) (st : SD) (p0 : Int32) (p1 : Int32) (p2 : Int32) : Met l y_D_set w_D_set ({ frames := 1, cells := 0, slots := 0, locals := 25 }) (va_Pc [.ref (h 20), .int p0, .int p1, .int p2] (zw_pre D vwCl [(c 21, .long), (c 22, .int), (c 23, .int), (c 24, .int), (c 25, .int), (c 26, .int), (c 27, .int), (c 28, .int)] sz (wD h c st) (fun _ => True))) (va_Qi (fun r (u : SD) => r = (m_set st p0 p1 p2).1 ∧ u = (m_set st p0 p1 p2).2) (fun u t => zw_at D vwCl (va_A (wD h c st) sz) ((fun (u : SD) => wD h c u) u) t) (va_A (wD h c st) sz)) 0 0 (va_A (wD h c st) sz) := by
  refine zm (Qf := fun A => va_Qi (fun r (u : SD) => r = (m_set st p0 p1 p2).1 ∧ u = (m_set st p0 p1 p2).2) (fun u t => zw_at D vwCl A ((fun (u : SD) => wD h c u) u) t) A) (Zf := fun _ _ => True) (cc := c_D_set) (nL := 5) (ret := (some .int)) (by decide) rfl (Nat.le_of_ble_eq_true rfl) ?_
  intro p e s m below meth c9 A H locs ls hx hb hml hown hts hr hlocks hA hK hP hD hS hZ hl
  have hl : lv_has ls 5 [(0, .ref (h 20)), (1, .int p0), (2, .int p1), (3, .int p2)] := hl
  have ht : ∀ w9 ∈ zT, w9.before _ s = true := fun w9 h9 => hts w9 (List.mem_cons_of_mem _ h9)
  refine lv_aload_n hx hb d_D_set_0 rfl (lv_at hl 0 rfl) ?_
  refine lv_iconst (v := (0 : Int32)) hx hb d_D_set_1 (by decide) ?_
  refine va_put (D := D) (ci := 6) (v := .int (0 : Int32)) (ty := .int) (C := "WindowMachineModel") (T := T_D) (N := 31) hx hb ht zi_D ty_D tyok_D nm_D hown hK hP hD hS 0 rfl rfl 3 (by decide) (ht _ zw_857) (fun _ h9 => h9) rfl (by decide +kernel) rfl rfl (Nat.le_of_ble_eq_true rfl) d_D_set_2 (fun H locs hP hD hS => ?_)
  have hP : va_P D vwCl (wD h c (upd st.1 0 (0 : Int32), st.2.1, st.2.2.1, st.2.2.2.1, st.2.2.2.2.1, st.2.2.2.2.2)) H := hP
  have hD : va_D A (wD h c (upd st.1 0 (0 : Int32), st.2.1, st.2.2.1, st.2.2.2.1, st.2.2.2.2.1, st.2.2.2.2.2)) := hD
  refine lv_aload_n hx hb d_D_set_5 rfl (lv_at hl 0 rfl) ?_
  refine lv_iload_n hx hb d_D_set_6 rfl (lv_at hl 2 rfl) ?_
  refine lv_i2l (v := p1.toInt64) hx hb d_D_set_7 rfl ?_
  refine lv_lconst (v := (0 : Int64)) hx hb d_D_set_8 (by decide) ?_
  refine lv_ldc2 (v := (31 : Int64)) hx hb hown (ht _ zw_984) d_D_set_9 ?_
  refine zc_i (w2 := fun _ => wD h c (upd st.1 0 (0 : Int32), st.2.1, st.2.2.1, st.2.2.2.1, st.2.2.2.2.1, st.2.2.2.2.2)) (va_runS (As := [.long p1.toInt64, .long (0 : Int64), .long (31 : Int64)]) (rest := [.ref (h 20)]) ⟨hx, hb, hml, hown, ht⟩ (mt_D_in l D H.size p1.toInt64 (0 : Int64) (31 : Int64)) (cwS 3 ht (zgS zw_961 zw_962 zw_7 zw_963) rfl rfl rfl kd_D_in ⟨Nat.le_of_ble_eq_true rfl, Nat.le_of_ble_eq_true rfl⟩) ⟨zw_blind zw_tt, zw_go (hP.sub (ws' := []) [] rfl) (hD.sub (ws' := []) [] (by decide) rfl) (hK.sub (tys' := []) [] rfl) (fun _ _ _ => trivial)⟩ rfl rfl hl.1 rfl (lv_room (Nat.le_of_ble_eq_true rfl)) d_D_set_12 ⟨Nat.le_of_ble_eq_true rfl, Nat.le_of_ble_eq_true rfl⟩) hP hD hS hA [] [0, 1, 2, 3, 4, 5, 6, 7, 8] [0, 1, 2, 3, 4, 5, 6, 7, 8] rfl rfl (by decide) (by decide) (by decide) (fun _ => rfl) (fun r_1 _ H locs hw hP hD hS => ?_)
  have er_1 := hw
  refine zcut (X := Int32) (G := fun v9 H locs ls => v9 = (if r_1 = (0 : Int32) then (1 : Int32) else (if (m_in p0.toInt64 (0 : Int64) (3 : Int64)) = (0 : Int32) then (1 : Int32) else (0 : Int32))) ∧ va_P D vwCl (wD h c (upd st.1 0 (0 : Int32), st.2.1, st.2.2.1, st.2.2.2.1, st.2.2.2.2.1, st.2.2.2.2.2)) H ∧ va_D A (wD h c (upd st.1 0 (0 : Int32), st.2.1, st.2.2.1, st.2.2.2.1, st.2.2.2.2.1, st.2.2.2.2.2)) ∧ va_S A s.heap H locs ∧ lv_has ls 5 [(0, .ref (h 20)), (1, .int p0), (2, .int p1), (3, .int p2)]) (fr := fun v9 ls => F0 m 35 ls [.int v9, .ref (h 20)]) (fun J_3 => ?_) (fun v9 H locs ls hG => ?_)
  · refine lv_if_eq (tgt := 30) hx hb d_D_set_15 (by decide) (fun c_4 => ?_) (fun c_4 => ?_)
    · refine lv_iconst (v := (1 : Int32)) hx hb d_D_set_30 (by decide) ?_
      refine lv_goto (tgt := 35) hx hb d_D_set_31 (by decide) ?_
      exact J_3 (1 : Int32) _ _ _ ⟨by simp only [if_pos c_4], hP, hD, hS, hl⟩
    refine lv_iload_n hx hb d_D_set_18 rfl (lv_at hl 1 rfl) ?_
    refine lv_i2l (v := p0.toInt64) hx hb d_D_set_19 rfl ?_
    refine lv_lconst (v := (0 : Int64)) hx hb d_D_set_20 (by decide) ?_
    refine lv_ldc2 (v := (3 : Int64)) hx hb hown (ht _ zw_985) d_D_set_21 ?_
    refine zc_i (w2 := fun _ => wD h c (upd st.1 0 (0 : Int32), st.2.1, st.2.2.1, st.2.2.2.1, st.2.2.2.2.1, st.2.2.2.2.2)) (va_runS (As := [.long p0.toInt64, .long (0 : Int64), .long (3 : Int64)]) (rest := [.ref (h 20)]) ⟨hx, hb, hml, hown, ht⟩ (mt_D_in l D H.size p0.toInt64 (0 : Int64) (3 : Int64)) (cwS 3 ht (zgS zw_961 zw_962 zw_7 zw_963) rfl rfl rfl kd_D_in ⟨Nat.le_of_ble_eq_true rfl, Nat.le_of_ble_eq_true rfl⟩) ⟨zw_blind zw_tt, zw_go (hP.sub (ws' := []) [] rfl) (hD.sub (ws' := []) [] (by decide) rfl) (hK.sub (tys' := []) [] rfl) (fun _ _ _ => trivial)⟩ rfl rfl hl.1 rfl (lv_room (Nat.le_of_ble_eq_true rfl)) d_D_set_24 ⟨Nat.le_of_ble_eq_true rfl, Nat.le_of_ble_eq_true rfl⟩) hP hD hS hA [] [0, 1, 2, 3, 4, 5, 6, 7, 8] [0, 1, 2, 3, 4, 5, 6, 7, 8] rfl rfl (by decide) (by decide) (by decide) (fun _ => rfl) (fun r_5 _ H locs hw hP hD hS => ?_)
    subst hw
    refine lv_if_ne (tgt := 34) hx hb d_D_set_27 (by decide) (fun c_6 => ?_) (fun c_6 => ?_)
    · refine lv_iconst (v := (0 : Int32)) hx hb d_D_set_34 (by decide) ?_
      exact J_3 (0 : Int32) _ _ _ ⟨by simp only [if_neg c_4, if_neg c_6], hP, hD, hS, hl⟩
    refine lv_iconst (v := (1 : Int32)) hx hb d_D_set_30 (by decide) ?_
    refine lv_goto (tgt := 35) hx hb d_D_set_31 (by decide) ?_
    exact J_3 (1 : Int32) _ _ _ ⟨by simp only [if_neg c_4, if_pos c_6], hP, hD, hS, hl⟩
  obtain ⟨x_2, rfl⟩ : ∃ z, z = v9 := ⟨_, rfl⟩
  obtain ⟨ex_2, hP, hD, hS, hl⟩ := hG
  have zbx_2 : zB x_2 := by rw [ex_2]; repeat' first | with_reducible exact zB0 | with_reducible exact zB1 | with_reducible assumption | with_reducible refine zB_ite ?_ ?_
  refine lv_iconst (v := (1 : Int32)) hx hb d_D_set_35 (by decide) ?_
  refine zc_i (w2 := fun u9 => wD h c u9) (va_runV (As := [.int x_2, .int (1 : Int32)]) (rest := []) ⟨hx, hb, hml, hown, ht⟩ (mt_D_fails l D h c H.size (upd st.1 0 (0 : Int32), st.2.1, st.2.2.1, st.2.2.2.1, st.2.2.2.2.1, st.2.2.2.2.2) x_2 (1 : Int32)) (cwV 2 ht (zgV zw_964 zw_966 zs_53 zw_7 zw_967) rfl rfl rfl kd_D_fails ⟨Nat.le_of_ble_eq_true rfl, Nat.le_of_ble_eq_true rfl⟩) ⟨zw_blind zw_tt, va_recv (hK.sub (tys' := [(c 21, .long), (c 22, .int), (c 23, .int), (c 24, .int), (c 25, .int), (c 26, .int), (c 27, .int), (c 28, .int)]) [0, 1, 2, 3, 4, 5, 6, 7] rfl) (hP.sub (ws' := wD h c (upd st.1 0 (0 : Int32), st.2.1, st.2.2.1, st.2.2.2.1, st.2.2.2.2.1, st.2.2.2.2.2)) [0, 1, 2, 3, 4, 5, 6, 7, 8] rfl) (ci := 6) (q0 := 0) rfl rfl, zw_go (hP.sub (ws' := wD h c (upd st.1 0 (0 : Int32), st.2.1, st.2.2.1, st.2.2.2.1, st.2.2.2.2.1, st.2.2.2.2.2)) [0, 1, 2, 3, 4, 5, 6, 7, 8] rfl) (hD.sub (ws' := wD h c (upd st.1 0 (0 : Int32), st.2.1, st.2.2.1, st.2.2.2.1, st.2.2.2.2.1, st.2.2.2.2.2)) [0, 1, 2, 3, 4, 5, 6, 7, 8] (by decide) rfl) (hK.sub (tys' := [(c 21, .long), (c 22, .int), (c 23, .int), (c 24, .int), (c 25, .int), (c 26, .int), (c 27, .int), (c 28, .int)]) [0, 1, 2, 3, 4, 5, 6, 7] rfl) (fun _ _ _ => trivial)⟩ rfl rfl hl.1 rfl (lv_room (Nat.le_of_ble_eq_true rfl)) d_D_set_36 ⟨Nat.le_of_ble_eq_true rfl, Nat.le_of_ble_eq_true rfl⟩) hP hD hS hA [0, 1, 2, 3, 4, 5, 6, 7, 8] [] [0, 1, 2, 3, 4, 5, 6, 7, 8] rfl rfl (by decide) (by decide) (by decide) (fun _ => rfl) (fun r_7 u_7 H locs hw hP hD hS => ?_)
  obtain ⟨er_7, eu_7⟩ := hw
  refine lv_if_eq (tgt := 44) hx hb d_D_set_39 (by decide) (fun c_8 => ?_) (fun c_8 => ?_)
  · refine lv_aload_n hx hb d_D_set_44 rfl (lv_at hl 0 rfl) ?_
    refine lv_iload_n hx hb d_D_set_45 rfl (lv_at hl 2 rfl) ?_
    refine lv_iload_n hx hb d_D_set_46 rfl (lv_at hl 1 rfl) ?_
    refine zc_i (w2 := fun _ => wD h c u_7) (va_runV (As := [.int p1, .int p0]) (rest := []) ⟨hx, hb, hml, hown, ht⟩ (mt_D_get l D h c H.size u_7 p1 p0 (sr_r er_1 ex_2 er_7 c_8) (sr_w er_1 ex_2 er_7 c_8)) (cwV 2 ht (zgV zw_986 zw_988 zs_56 zw_7 zw_989) rfl rfl rfl kd_D_get ⟨Nat.le_of_ble_eq_true rfl, Nat.le_of_ble_eq_true rfl⟩) ⟨zw_blind zw_tt, va_recv (hK.sub (tys' := [(c 21, .long), (c 22, .int), (c 23, .int), (c 24, .int), (c 25, .int), (c 26, .int), (c 27, .int), (c 28, .int)]) [0, 1, 2, 3, 4, 5, 6, 7] rfl) (hP.sub (ws' := wD h c u_7) [0, 1, 2, 3, 4, 5, 6, 7, 8] rfl) (ci := 6) (q0 := 0) rfl rfl, zw_go (hP.sub (ws' := wD h c u_7) [0, 1, 2, 3, 4, 5, 6, 7, 8] rfl) (hD.sub (ws' := wD h c u_7) [0, 1, 2, 3, 4, 5, 6, 7, 8] (by decide) rfl) (hK.sub (tys' := [(c 21, .long), (c 22, .int), (c 23, .int), (c 24, .int), (c 25, .int), (c 26, .int), (c 27, .int), (c 28, .int)]) [0, 1, 2, 3, 4, 5, 6, 7] rfl) (fun _ _ _ => trivial)⟩ rfl rfl hl.1 rfl (lv_room (Nat.le_of_ble_eq_true rfl)) d_D_set_47 ⟨Nat.le_of_ble_eq_true rfl, Nat.le_of_ble_eq_true rfl⟩) hP hD hS hA [0, 1, 2, 3, 4, 5, 6, 7, 8] [] [0, 1, 2, 3, 4, 5, 6, 7, 8] rfl rfl (by decide) (by decide) (by decide) (fun _ => rfl) (fun r_9 _ H locs hw hP hD hS => ?_)
    have er_9 := hw
    refine lv_istore (lv' := [(4, .int r_9), (0, .ref (h 20)), (1, .int p0), (2, .int p1), (3, .int p2)]) hx hb d_D_set_50 hl (by decide) rfl (fun ls hl => ?_)
    refine lv_aload_n hx hb d_D_set_52 rfl (lv_at hl 1 rfl) ?_
    refine lv_iload_n hx hb d_D_set_53 rfl (lv_at hl 3 rfl) ?_
    refine lv_iload_n hx hb d_D_set_54 rfl (lv_at hl 2 rfl) ?_
    refine lv_iload_n hx hb d_D_set_55 rfl (lv_at hl 4 rfl) ?_
    refine zc_v (w2 := fun u9 => wD h c u9) (va_runV (As := [.int p1, .int p0, .int p2]) (rest := []) ⟨hx, hb, hml, hown, ht⟩ (mt_D_gives l D h c H.size u_7 p1 p0 p2 (sr_r er_1 ex_2 er_7 c_8) (sr_w er_1 ex_2 er_7 c_8)) (cwV 3 ht (zgV zw_990 zw_992 zs_57 zw_7 zw_993) rfl rfl rfl kd_D_gives ⟨Nat.le_of_ble_eq_true rfl, Nat.le_of_ble_eq_true rfl⟩) ⟨zw_blind zw_tt, va_recv (hK.sub (tys' := [(c 21, .long), (c 22, .int), (c 23, .int), (c 24, .int), (c 25, .int), (c 26, .int), (c 27, .int), (c 28, .int)]) [0, 1, 2, 3, 4, 5, 6, 7] rfl) (hP.sub (ws' := wD h c u_7) [0, 1, 2, 3, 4, 5, 6, 7, 8] rfl) (ci := 6) (q0 := 0) rfl rfl, zw_go (hP.sub (ws' := wD h c u_7) [0, 1, 2, 3, 4, 5, 6, 7, 8] rfl) (hD.sub (ws' := wD h c u_7) [0, 1, 2, 3, 4, 5, 6, 7, 8] (by decide) rfl) (hK.sub (tys' := [(c 21, .long), (c 22, .int), (c 23, .int), (c 24, .int), (c 25, .int), (c 26, .int), (c 27, .int), (c 28, .int)]) [0, 1, 2, 3, 4, 5, 6, 7] rfl) (fun _ _ _ => trivial)⟩ rfl rfl hl.1 rfl (lv_room (Nat.le_of_ble_eq_true rfl)) d_D_set_56 ⟨Nat.le_of_ble_eq_true rfl, Nat.le_of_ble_eq_true rfl⟩) hP hD hS hA [0, 1, 2, 3, 4, 5, 6, 7, 8] [] [0, 1, 2, 3, 4, 5, 6, 7, 8] rfl rfl (by decide) (by decide) (by decide) (fun _ => rfl) (fun u_10 H locs hw hP hD hS => ?_)
    have eu_10 := hw
    refine lv_iload hx hb d_D_set_59 (lv_at hl 0 rfl) ?_
    exact zl_i (u := u_10) hx hb hr hlocks hS hP hD (⟨by simp only [m_set, ← er_1, ← ex_2, ← er_7, ← eu_7, ← er_9, ← eu_10, if_pos c_8], by simp only [m_set, ← er_1, ← ex_2, ← er_7, ← eu_7, ← er_9, ← eu_10, if_pos c_8]⟩) d_D_set_61
  refine lv_iconst (v := (0 : Int32)) hx hb d_D_set_42 (by decide) ?_
  exact zl_i (u := u_7) hx hb hr hlocks hS hP hD (⟨by simp only [m_set, ← er_1, ← ex_2, ← er_7, ← eu_7, if_neg c_8], by simp only [m_set, ← er_1, ← ex_2, ← er_7, ← eu_7, if_neg c_8]⟩) d_D_set_43
theorem d_D_register_0 : decode c_D_register 0 = .ok (.aload_n 0, 1) := by decide +kernel
theorem d_D_register_1 : decode c_D_register 1 = .ok (.iconst 0, 1) := by decide +kernel
theorem d_D_register_2 : decode c_D_register 2 = .ok (.putfield 228, 3) := by decide +kernel
theorem d_D_register_5 : decode c_D_register 5 = .ok (.aload_n 0, 1) := by decide +kernel
theorem d_D_register_6 : decode c_D_register 6 = .ok (.iload_n 2, 1) := by decide +kernel
theorem d_D_register_7 : decode c_D_register 7 = .ok (.i2l, 1) := by decide +kernel
theorem d_D_register_8 : decode c_D_register 8 = .ok (.lconst 0, 1) := by decide +kernel
theorem d_D_register_9 : decode c_D_register 9 = .ok (.ldc2_w 302, 3) := by decide +kernel
theorem d_D_register_12 : decode c_D_register 12 = .ok (.invokestatic 282, 3) := by decide +kernel
theorem d_D_register_15 : decode c_D_register 15 = .ok (.ifCond .eq 15, 3) := by decide +kernel
theorem d_D_register_18 : decode c_D_register 18 = .ok (.iload_n 1, 1) := by decide +kernel
theorem d_D_register_19 : decode c_D_register 19 = .ok (.i2l, 1) := by decide +kernel
theorem d_D_register_20 : decode c_D_register 20 = .ok (.lconst 0, 1) := by decide +kernel
theorem d_D_register_21 : decode c_D_register 21 = .ok (.ldc2_w 304, 3) := by decide +kernel
theorem d_D_register_24 : decode c_D_register 24 = .ok (.invokestatic 282, 3) := by decide +kernel
theorem d_D_register_27 : decode c_D_register 27 = .ok (.ifCond .ne 7, 3) := by decide +kernel
theorem d_D_register_30 : decode c_D_register 30 = .ok (.iconst 1, 1) := by decide +kernel
theorem d_D_register_31 : decode c_D_register 31 = .ok (.goto 4, 3) := by decide +kernel
theorem d_D_register_34 : decode c_D_register 34 = .ok (.iconst 0, 1) := by decide +kernel
theorem d_D_register_35 : decode c_D_register 35 = .ok (.iconst 1, 1) := by decide +kernel
theorem d_D_register_36 : decode c_D_register 36 = .ok (.invokevirtual 290, 3) := by decide +kernel
theorem d_D_register_39 : decode c_D_register 39 = .ok (.ifCond .eq 7, 3) := by decide +kernel
theorem d_D_register_42 : decode c_D_register 42 = .ok (.iconst 0, 1) := by decide +kernel
theorem d_D_register_43 : decode c_D_register 43 = .ok (.goto 9, 3) := by decide +kernel
theorem d_D_register_46 : decode c_D_register 46 = .ok (.aload_n 0, 1) := by decide +kernel
theorem d_D_register_47 : decode c_D_register 47 = .ok (.iload_n 2, 1) := by decide +kernel
theorem d_D_register_48 : decode c_D_register 48 = .ok (.iload_n 1, 1) := by decide +kernel
theorem d_D_register_49 : decode c_D_register 49 = .ok (.invokevirtual 306, 3) := by decide +kernel
theorem d_D_register_52 : decode c_D_register 52 = .ok (.ireturn, 1) := by decide +kernel
theorem kd_D_register : (y_D_register).cls = "WindowMachineModel" ∧ (y_D_register).cls ≠ "java/lang/invoke/MethodHandle" ∧ (y_D_register).cls ≠ "java/lang/invoke/VarHandle" ∧ (parseMethodDescriptor (y_D_register).desc).map (fun d => d.parameters.length) = some 2 := by decide +kernel
def m_register (st : SD) (p0 : Int32) (p1 : Int32) : Int32 × SD := (let r_1 := m_in p1.toInt64 (0 : Int64) (31 : Int64); (let x_2 := (if r_1 = (0 : Int32) then (1 : Int32) else (if (m_in p0.toInt64 (0 : Int64) (3 : Int64)) = (0 : Int32) then (1 : Int32) else (0 : Int32))); (let r_7 := (m_fails (upd st.1 0 (0 : Int32), st.2.1, st.2.2.1, st.2.2.2.1, st.2.2.2.2.1, st.2.2.2.2.2) x_2 (1 : Int32)).1; (let u_7 := (m_fails (upd st.1 0 (0 : Int32), st.2.1, st.2.2.1, st.2.2.2.1, st.2.2.2.2.1, st.2.2.2.2.2) x_2 (1 : Int32)).2; (let x_8 := (if r_7 = (0 : Int32) then m_get u_7 p1 p0 else (0 : Int32)); (x_8, u_7))))))
set_option maxHeartbeats 4000000 in
set_option maxRecDepth 100000 in
theorem mt_D_register (l : Launch) (D : va_G) (h : Nat → Nat) (c : Nat → ClassId) (sz : Nat) (st : SD) (p0 : Int32) (p1 : Int32) : Met l y_D_register w_D_register ({ frames := 1, cells := 0, slots := 0, locals := 25 }) (va_Pc [.ref (h 20), .int p0, .int p1] (zw_pre D vwCl [(c 21, .long), (c 22, .int), (c 23, .int), (c 24, .int), (c 25, .int), (c 26, .int), (c 27, .int), (c 28, .int)] sz (wD h c st) (fun _ => True))) (va_Qi (fun r (u : SD) => r = (m_register st p0 p1).1 ∧ u = (m_register st p0 p1).2) (fun u t => zw_at D vwCl (va_A (wD h c st) sz) ((fun (u : SD) => wD h c u) u) t) (va_A (wD h c st) sz)) 0 0 (va_A (wD h c st) sz) := by
  refine zm (Qf := fun A => va_Qi (fun r (u : SD) => r = (m_register st p0 p1).1 ∧ u = (m_register st p0 p1).2) (fun u t => zw_at D vwCl A ((fun (u : SD) => wD h c u) u) t) A) (Zf := fun _ _ => True) (cc := c_D_register) (nL := 3) (ret := (some .int)) (by decide) rfl (Nat.le_of_ble_eq_true rfl) ?_
  intro p e s m below meth c9 A H locs ls hx hb hml hown hts hr hlocks hA hK hP hD hS hZ hl
  have hl : lv_has ls 3 [(0, .ref (h 20)), (1, .int p0), (2, .int p1)] := hl
  have ht : ∀ w9 ∈ zT, w9.before _ s = true := fun w9 h9 => hts w9 (List.mem_cons_of_mem _ h9)
  refine lv_aload_n hx hb d_D_register_0 rfl (lv_at hl 0 rfl) ?_
  refine lv_iconst (v := (0 : Int32)) hx hb d_D_register_1 (by decide) ?_
  refine va_put (D := D) (ci := 6) (v := .int (0 : Int32)) (ty := .int) (C := "WindowMachineModel") (T := T_D) (N := 31) hx hb ht zi_D ty_D tyok_D nm_D hown hK hP hD hS 0 rfl rfl 3 (by decide) (ht _ zw_857) (fun _ h9 => h9) rfl (by decide +kernel) rfl rfl (Nat.le_of_ble_eq_true rfl) d_D_register_2 (fun H locs hP hD hS => ?_)
  have hP : va_P D vwCl (wD h c (upd st.1 0 (0 : Int32), st.2.1, st.2.2.1, st.2.2.2.1, st.2.2.2.2.1, st.2.2.2.2.2)) H := hP
  have hD : va_D A (wD h c (upd st.1 0 (0 : Int32), st.2.1, st.2.2.1, st.2.2.2.1, st.2.2.2.2.1, st.2.2.2.2.2)) := hD
  refine lv_aload_n hx hb d_D_register_5 rfl (lv_at hl 0 rfl) ?_
  refine lv_iload_n hx hb d_D_register_6 rfl (lv_at hl 2 rfl) ?_
  refine lv_i2l (v := p1.toInt64) hx hb d_D_register_7 rfl ?_
  refine lv_lconst (v := (0 : Int64)) hx hb d_D_register_8 (by decide) ?_
  refine lv_ldc2 (v := (31 : Int64)) hx hb hown (ht _ zw_984) d_D_register_9 ?_
  refine zc_i (w2 := fun _ => wD h c (upd st.1 0 (0 : Int32), st.2.1, st.2.2.1, st.2.2.2.1, st.2.2.2.2.1, st.2.2.2.2.2)) (va_runS (As := [.long p1.toInt64, .long (0 : Int64), .long (31 : Int64)]) (rest := [.ref (h 20)]) ⟨hx, hb, hml, hown, ht⟩ (mt_D_in l D H.size p1.toInt64 (0 : Int64) (31 : Int64)) (cwS 3 ht (zgS zw_961 zw_962 zw_7 zw_963) rfl rfl rfl kd_D_in ⟨Nat.le_of_ble_eq_true rfl, Nat.le_of_ble_eq_true rfl⟩) ⟨zw_blind zw_tt, zw_go (hP.sub (ws' := []) [] rfl) (hD.sub (ws' := []) [] (by decide) rfl) (hK.sub (tys' := []) [] rfl) (fun _ _ _ => trivial)⟩ rfl rfl hl.1 rfl (lv_room (Nat.le_of_ble_eq_true rfl)) d_D_register_12 ⟨Nat.le_of_ble_eq_true rfl, Nat.le_of_ble_eq_true rfl⟩) hP hD hS hA [] [0, 1, 2, 3, 4, 5, 6, 7, 8] [0, 1, 2, 3, 4, 5, 6, 7, 8] rfl rfl (by decide) (by decide) (by decide) (fun _ => rfl) (fun r_1 _ H locs hw hP hD hS => ?_)
  have er_1 := hw
  refine zcut (X := Int32) (G := fun v9 H locs ls => v9 = (if r_1 = (0 : Int32) then (1 : Int32) else (if (m_in p0.toInt64 (0 : Int64) (3 : Int64)) = (0 : Int32) then (1 : Int32) else (0 : Int32))) ∧ va_P D vwCl (wD h c (upd st.1 0 (0 : Int32), st.2.1, st.2.2.1, st.2.2.2.1, st.2.2.2.2.1, st.2.2.2.2.2)) H ∧ va_D A (wD h c (upd st.1 0 (0 : Int32), st.2.1, st.2.2.1, st.2.2.2.1, st.2.2.2.2.1, st.2.2.2.2.2)) ∧ va_S A s.heap H locs ∧ lv_has ls 3 [(0, .ref (h 20)), (1, .int p0), (2, .int p1)]) (fr := fun v9 ls => F0 m 35 ls [.int v9, .ref (h 20)]) (fun J_3 => ?_) (fun v9 H locs ls hG => ?_)
  · refine lv_if_eq (tgt := 30) hx hb d_D_register_15 (by decide) (fun c_4 => ?_) (fun c_4 => ?_)
    · refine lv_iconst (v := (1 : Int32)) hx hb d_D_register_30 (by decide) ?_
      refine lv_goto (tgt := 35) hx hb d_D_register_31 (by decide) ?_
      exact J_3 (1 : Int32) _ _ _ ⟨by simp only [if_pos c_4], hP, hD, hS, hl⟩
    refine lv_iload_n hx hb d_D_register_18 rfl (lv_at hl 1 rfl) ?_
    refine lv_i2l (v := p0.toInt64) hx hb d_D_register_19 rfl ?_
    refine lv_lconst (v := (0 : Int64)) hx hb d_D_register_20 (by decide) ?_
    refine lv_ldc2 (v := (3 : Int64)) hx hb hown (ht _ zw_985) d_D_register_21 ?_
    refine zc_i (w2 := fun _ => wD h c (upd st.1 0 (0 : Int32), st.2.1, st.2.2.1, st.2.2.2.1, st.2.2.2.2.1, st.2.2.2.2.2)) (va_runS (As := [.long p0.toInt64, .long (0 : Int64), .long (3 : Int64)]) (rest := [.ref (h 20)]) ⟨hx, hb, hml, hown, ht⟩ (mt_D_in l D H.size p0.toInt64 (0 : Int64) (3 : Int64)) (cwS 3 ht (zgS zw_961 zw_962 zw_7 zw_963) rfl rfl rfl kd_D_in ⟨Nat.le_of_ble_eq_true rfl, Nat.le_of_ble_eq_true rfl⟩) ⟨zw_blind zw_tt, zw_go (hP.sub (ws' := []) [] rfl) (hD.sub (ws' := []) [] (by decide) rfl) (hK.sub (tys' := []) [] rfl) (fun _ _ _ => trivial)⟩ rfl rfl hl.1 rfl (lv_room (Nat.le_of_ble_eq_true rfl)) d_D_register_24 ⟨Nat.le_of_ble_eq_true rfl, Nat.le_of_ble_eq_true rfl⟩) hP hD hS hA [] [0, 1, 2, 3, 4, 5, 6, 7, 8] [0, 1, 2, 3, 4, 5, 6, 7, 8] rfl rfl (by decide) (by decide) (by decide) (fun _ => rfl) (fun r_5 _ H locs hw hP hD hS => ?_)
    subst hw
    refine lv_if_ne (tgt := 34) hx hb d_D_register_27 (by decide) (fun c_6 => ?_) (fun c_6 => ?_)
    · refine lv_iconst (v := (0 : Int32)) hx hb d_D_register_34 (by decide) ?_
      exact J_3 (0 : Int32) _ _ _ ⟨by simp only [if_neg c_4, if_neg c_6], hP, hD, hS, hl⟩
    refine lv_iconst (v := (1 : Int32)) hx hb d_D_register_30 (by decide) ?_
    refine lv_goto (tgt := 35) hx hb d_D_register_31 (by decide) ?_
    exact J_3 (1 : Int32) _ _ _ ⟨by simp only [if_neg c_4, if_pos c_6], hP, hD, hS, hl⟩
  obtain ⟨x_2, rfl⟩ : ∃ z, z = v9 := ⟨_, rfl⟩
  obtain ⟨ex_2, hP, hD, hS, hl⟩ := hG
  have zbx_2 : zB x_2 := by rw [ex_2]; repeat' first | with_reducible exact zB0 | with_reducible exact zB1 | with_reducible assumption | with_reducible refine zB_ite ?_ ?_
  refine lv_iconst (v := (1 : Int32)) hx hb d_D_register_35 (by decide) ?_
  refine zc_i (w2 := fun u9 => wD h c u9) (va_runV (As := [.int x_2, .int (1 : Int32)]) (rest := []) ⟨hx, hb, hml, hown, ht⟩ (mt_D_fails l D h c H.size (upd st.1 0 (0 : Int32), st.2.1, st.2.2.1, st.2.2.2.1, st.2.2.2.2.1, st.2.2.2.2.2) x_2 (1 : Int32)) (cwV 2 ht (zgV zw_964 zw_966 zs_53 zw_7 zw_967) rfl rfl rfl kd_D_fails ⟨Nat.le_of_ble_eq_true rfl, Nat.le_of_ble_eq_true rfl⟩) ⟨zw_blind zw_tt, va_recv (hK.sub (tys' := [(c 21, .long), (c 22, .int), (c 23, .int), (c 24, .int), (c 25, .int), (c 26, .int), (c 27, .int), (c 28, .int)]) [0, 1, 2, 3, 4, 5, 6, 7] rfl) (hP.sub (ws' := wD h c (upd st.1 0 (0 : Int32), st.2.1, st.2.2.1, st.2.2.2.1, st.2.2.2.2.1, st.2.2.2.2.2)) [0, 1, 2, 3, 4, 5, 6, 7, 8] rfl) (ci := 6) (q0 := 0) rfl rfl, zw_go (hP.sub (ws' := wD h c (upd st.1 0 (0 : Int32), st.2.1, st.2.2.1, st.2.2.2.1, st.2.2.2.2.1, st.2.2.2.2.2)) [0, 1, 2, 3, 4, 5, 6, 7, 8] rfl) (hD.sub (ws' := wD h c (upd st.1 0 (0 : Int32), st.2.1, st.2.2.1, st.2.2.2.1, st.2.2.2.2.1, st.2.2.2.2.2)) [0, 1, 2, 3, 4, 5, 6, 7, 8] (by decide) rfl) (hK.sub (tys' := [(c 21, .long), (c 22, .int), (c 23, .int), (c 24, .int), (c 25, .int), (c 26, .int), (c 27, .int), (c 28, .int)]) [0, 1, 2, 3, 4, 5, 6, 7] rfl) (fun _ _ _ => trivial)⟩ rfl rfl hl.1 rfl (lv_room (Nat.le_of_ble_eq_true rfl)) d_D_register_36 ⟨Nat.le_of_ble_eq_true rfl, Nat.le_of_ble_eq_true rfl⟩) hP hD hS hA [0, 1, 2, 3, 4, 5, 6, 7, 8] [] [0, 1, 2, 3, 4, 5, 6, 7, 8] rfl rfl (by decide) (by decide) (by decide) (fun _ => rfl) (fun r_7 u_7 H locs hw hP hD hS => ?_)
  obtain ⟨er_7, eu_7⟩ := hw
  refine zcut (X := Int32) (G := fun v9 H locs ls => v9 = (if r_7 = (0 : Int32) then m_get u_7 p1 p0 else (0 : Int32)) ∧ va_P D vwCl (wD h c u_7) H ∧ va_D A (wD h c u_7) ∧ va_S A s.heap H locs ∧ lv_has ls 3 [(0, .ref (h 20)), (1, .int p0), (2, .int p1)]) (fr := fun v9 ls => F0 m 52 ls [.int v9]) (fun J_9 => ?_) (fun v9 H locs ls hG => ?_)
  · refine lv_if_eq (tgt := 46) hx hb d_D_register_39 (by decide) (fun c_10 => ?_) (fun c_10 => ?_)
    · refine lv_aload_n hx hb d_D_register_46 rfl (lv_at hl 0 rfl) ?_
      refine lv_iload_n hx hb d_D_register_47 rfl (lv_at hl 2 rfl) ?_
      refine lv_iload_n hx hb d_D_register_48 rfl (lv_at hl 1 rfl) ?_
      refine zc_i (w2 := fun _ => wD h c u_7) (va_runV (As := [.int p1, .int p0]) (rest := []) ⟨hx, hb, hml, hown, ht⟩ (mt_D_get l D h c H.size u_7 p1 p0 (sr_r er_1 ex_2 er_7 c_10) (sr_w er_1 ex_2 er_7 c_10)) (cwV 2 ht (zgV zw_986 zw_988 zs_56 zw_7 zw_989) rfl rfl rfl kd_D_get ⟨Nat.le_of_ble_eq_true rfl, Nat.le_of_ble_eq_true rfl⟩) ⟨zw_blind zw_tt, va_recv (hK.sub (tys' := [(c 21, .long), (c 22, .int), (c 23, .int), (c 24, .int), (c 25, .int), (c 26, .int), (c 27, .int), (c 28, .int)]) [0, 1, 2, 3, 4, 5, 6, 7] rfl) (hP.sub (ws' := wD h c u_7) [0, 1, 2, 3, 4, 5, 6, 7, 8] rfl) (ci := 6) (q0 := 0) rfl rfl, zw_go (hP.sub (ws' := wD h c u_7) [0, 1, 2, 3, 4, 5, 6, 7, 8] rfl) (hD.sub (ws' := wD h c u_7) [0, 1, 2, 3, 4, 5, 6, 7, 8] (by decide) rfl) (hK.sub (tys' := [(c 21, .long), (c 22, .int), (c 23, .int), (c 24, .int), (c 25, .int), (c 26, .int), (c 27, .int), (c 28, .int)]) [0, 1, 2, 3, 4, 5, 6, 7] rfl) (fun _ _ _ => trivial)⟩ rfl rfl hl.1 rfl (lv_room (Nat.le_of_ble_eq_true rfl)) d_D_register_49 ⟨Nat.le_of_ble_eq_true rfl, Nat.le_of_ble_eq_true rfl⟩) hP hD hS hA [0, 1, 2, 3, 4, 5, 6, 7, 8] [] [0, 1, 2, 3, 4, 5, 6, 7, 8] rfl rfl (by decide) (by decide) (by decide) (fun _ => rfl) (fun r_11 _ H locs hw hP hD hS => ?_)
      subst hw
      exact J_9 (m_get u_7 p1 p0) _ _ _ ⟨by simp only [if_pos c_10], hP, hD, hS, hl⟩
    refine lv_iconst (v := (0 : Int32)) hx hb d_D_register_42 (by decide) ?_
    refine lv_goto (tgt := 52) hx hb d_D_register_43 (by decide) ?_
    exact J_9 (0 : Int32) _ _ _ ⟨by simp only [if_neg c_10], hP, hD, hS, hl⟩
  obtain ⟨x_8, rfl⟩ : ∃ z, z = v9 := ⟨_, rfl⟩
  obtain ⟨ex_8, hP, hD, hS, hl⟩ := hG
  exact zl_i (u := u_7) hx hb hr hlocks hS hP hD (⟨by simp only [m_register, ← er_1, ← ex_2, ← er_7, ← eu_7, ← ex_8], by simp only [m_register, ← er_1, ← ex_2, ← er_7, ← eu_7, ← ex_8]⟩) d_D_register_52
