theorem cmp_lt {x y : Int64} (h : ¬ lg_cmp x y < (0 : Int32)) : y.toInt ≤ x.toInt := by
  rcases Int.lt_or_le x.toInt y.toInt with q | q
  · exfalso
    apply h
    unfold lg_cmp
    have c1 : ¬ x > y := fun z => by have := Int64.lt_iff_toInt_lt.mp z; omega
    have c2 : ¬ x = y := fun z => by rw [z] at q; omega
    rw [if_neg c1, if_neg c2]
    decide
  · exact q
theorem cmp_gt {x y : Int64} (h : ¬ (0 : Int32) < lg_cmp x y) : x.toInt ≤ y.toInt := by
  rcases Int.lt_or_le y.toInt x.toInt with q | q
  · exfalso
    apply h
    unfold lg_cmp
    rw [if_pos (Int64.lt_iff_toInt_lt.mpr q)]
    decide
  · exact q
theorem in_of {v lo hi : Int64} (h : ¬ m_in v lo hi = (0 : Int32)) : lo.toInt ≤ v.toInt ∧ v.toInt ≤ hi.toInt := by
  unfold m_in at h
  dsimp only at h
  by_cases c1 : lg_cmp v lo < (0 : Int32)
  · rw [if_pos c1] at h
    exact absurd rfl h
  · rw [if_neg c1] at h
    by_cases c2 : (0 : Int32) < lg_cmp v hi
    · rw [if_pos c2] at h
      exact absurd rfl h
    · exact ⟨cmp_lt c1, cmp_gt c2⟩
theorem fl_no {st : SD} {b k : Int32} (hk : ¬ k = (0 : Int32)) (h : (m_fails st b k).1 = (0 : Int32)) : b = (0 : Int32) := by
  unfold m_fails at h
  dsimp only at h
  by_cases c : b = (0 : Int32)
  · exact c
  · exfalso
    rw [if_neg c] at h
    by_cases d : st.1 0 = (0 : Int32)
    · rw [if_pos d] at h
      rw [if_neg (show ¬ (upd st.1 0 k) 0 = (0 : Int32) from hk)] at h
      exact absurd h (by decide)
    · rw [if_neg d, if_neg d] at h
      exact absurd h (by decide)
theorem pw_in {st : SD} {a r x f : Int32} (er : r = m_isWord a) (ex : x = (if r = (0 : Int32) then (1 : Int32) else (0 : Int32))) (ef : f = (m_fails st x (1 : Int32)).1) (c : f = (0 : Int32)) : 0 ≤ a.toInt ∧ 0 ≤ (4 : Int32).toInt ∧ (4 : Int32).toInt ≤ 8 ∧ a.toInt + (4 : Int32).toInt ≤ 1024 := by
  have q := fl_no (by decide) (ef.symm.trans c)
  have hr : ¬ r = (0 : Int32) := fun z => by rw [ex, if_pos z] at q; exact absurd q (by decide)
  rw [er] at hr
  unfold m_isWord at hr
  dsimp only at hr
  have hi : ¬ m_in a.toInt64 (0 : Int64) (1020 : Int64) = (0 : Int32) := fun z => hr (by rw [if_pos z])
  have b := in_of hi
  rw [Int32.toInt_toInt64] at b
  have e0 : (0 : Int64).toInt = 0 := by decide
  have e1 : (1020 : Int64).toInt = 1020 := by decide
  have e4 : (4 : Int32).toInt = 4 := by decide
  rw [e0, e1] at b
  rw [e4]
  omega
theorem d_D_put_0 : decode c_D_put 0 = .ok (.aload_n 0, 1) := by decide +kernel
theorem d_D_put_1 : decode c_D_put 1 = .ok (.iconst 0, 1) := by decide +kernel
theorem d_D_put_2 : decode c_D_put 2 = .ok (.putfield 228, 3) := by decide +kernel
theorem d_D_put_5 : decode c_D_put 5 = .ok (.aload_n 0, 1) := by decide +kernel
theorem d_D_put_6 : decode c_D_put 6 = .ok (.iload_n 1, 1) := by decide +kernel
theorem d_D_put_7 : decode c_D_put 7 = .ok (.invokestatic 286, 3) := by decide +kernel
theorem d_D_put_10 : decode c_D_put 10 = .ok (.ifCond .ne 7, 3) := by decide +kernel
theorem d_D_put_13 : decode c_D_put 13 = .ok (.iconst 1, 1) := by decide +kernel
theorem d_D_put_14 : decode c_D_put 14 = .ok (.goto 4, 3) := by decide +kernel
theorem d_D_put_17 : decode c_D_put 17 = .ok (.iconst 0, 1) := by decide +kernel
theorem d_D_put_18 : decode c_D_put 18 = .ok (.iconst 1, 1) := by decide +kernel
theorem d_D_put_19 : decode c_D_put 19 = .ok (.invokevirtual 290, 3) := by decide +kernel
theorem d_D_put_22 : decode c_D_put 22 = .ok (.ifCond .eq 5, 3) := by decide +kernel
theorem d_D_put_25 : decode c_D_put 25 = .ok (.iconst 0, 1) := by decide +kernel
theorem d_D_put_26 : decode c_D_put 26 = .ok (.ireturn, 1) := by decide +kernel
theorem d_D_put_27 : decode c_D_put 27 = .ok (.aload_n 0, 1) := by decide +kernel
theorem d_D_put_28 : decode c_D_put 28 = .ok (.iload_n 1, 1) := by decide +kernel
theorem d_D_put_29 : decode c_D_put 29 = .ok (.iconst 4, 1) := by decide +kernel
theorem d_D_put_30 : decode c_D_put 30 = .ok (.invokevirtual 294, 3) := by decide +kernel
theorem d_D_put_33 : decode c_D_put 33 = .ok (.istore_n 3, 1) := by decide +kernel
theorem d_D_put_34 : decode c_D_put 34 = .ok (.aload_n 0, 1) := by decide +kernel
theorem d_D_put_35 : decode c_D_put 35 = .ok (.iload_n 1, 1) := by decide +kernel
theorem d_D_put_36 : decode c_D_put 36 = .ok (.iconst 4, 1) := by decide +kernel
theorem d_D_put_37 : decode c_D_put 37 = .ok (.iload_n 2, 1) := by decide +kernel
theorem d_D_put_38 : decode c_D_put 38 = .ok (.invokevirtual 298, 3) := by decide +kernel
theorem d_D_put_41 : decode c_D_put 41 = .ok (.iload_n 3, 1) := by decide +kernel
theorem d_D_put_42 : decode c_D_put 42 = .ok (.ireturn, 1) := by decide +kernel
theorem kd_D_put : (y_D_put).cls = "WindowMachineModel" ∧ (y_D_put).cls ≠ "java/lang/invoke/MethodHandle" ∧ (y_D_put).cls ≠ "java/lang/invoke/VarHandle" ∧ (parseMethodDescriptor (y_D_put).desc).map (fun d => d.parameters.length) = some 2 := by decide +kernel
def m_put (st : SD) (p0 : Int32) (p1 : Int32) : Int32 × SD := (let r_1 := m_isWord p0; (let x_2 := (if r_1 = (0 : Int32) then (1 : Int32) else (0 : Int32)); (let r_5 := (m_fails (upd st.1 0 (0 : Int32), st.2.1, st.2.2.1, st.2.2.2.1, st.2.2.2.2.1, st.2.2.2.2.2) x_2 (1 : Int32)).1; (let u_5 := (m_fails (upd st.1 0 (0 : Int32), st.2.1, st.2.2.1, st.2.2.2.1, st.2.2.2.2.1, st.2.2.2.2.2) x_2 (1 : Int32)).2; (if r_5 = (0 : Int32) then (let r_7 := m_take u_5 p0 (4 : Int32); (let u_8 := m_store u_5 p0 (4 : Int32) p1; (r_7, u_8))) else ((0 : Int32), u_5))))))
set_option maxHeartbeats 4000000 in
set_option maxRecDepth 100000 in
theorem mt_D_put (l : Launch) (D : va_G) (h : Nat → Nat) (c : Nat → ClassId) (sz : Nat) (st : SD) (p0 : Int32) (p1 : Int32) : Met l y_D_put w_D_put ({ frames := 2, cells := 0, slots := 0, locals := 45 }) (va_Pc [.ref (h 20), .int p0, .int p1] (zw_pre D vwCl [(c 21, .long), (c 22, .int), (c 23, .int), (c 24, .int), (c 25, .int), (c 26, .int), (c 27, .int), (c 28, .int)] sz (wD h c st) (fun _ => True))) (va_Qi (fun r (u : SD) => r = (m_put st p0 p1).1 ∧ u = (m_put st p0 p1).2) (fun u t => zw_at D vwCl (va_A (wD h c st) sz) ((fun (u : SD) => wD h c u) u) t) (va_A (wD h c st) sz)) 0 0 (va_A (wD h c st) sz) := by
  refine zm (Qf := fun A => va_Qi (fun r (u : SD) => r = (m_put st p0 p1).1 ∧ u = (m_put st p0 p1).2) (fun u t => zw_at D vwCl A ((fun (u : SD) => wD h c u) u) t) A) (Zf := fun _ _ => True) (cc := c_D_put) (nL := 4) (ret := (some .int)) (by decide) rfl (Nat.le_of_ble_eq_true rfl) ?_
  intro p e s m below meth c9 A H locs ls hx hb hml hown hts hr hlocks hA hK hP hD hS hZ hl
  have hl : lv_has ls 4 [(0, .ref (h 20)), (1, .int p0), (2, .int p1)] := hl
  have ht : ∀ w9 ∈ zT, w9.before _ s = true := fun w9 h9 => hts w9 (List.mem_cons_of_mem _ h9)
  refine lv_aload_n hx hb d_D_put_0 rfl (lv_at hl 0 rfl) ?_
  refine lv_iconst (v := (0 : Int32)) hx hb d_D_put_1 (by decide) ?_
  refine va_put (D := D) (ci := 6) (v := .int (0 : Int32)) (ty := .int) (C := "WindowMachineModel") (T := T_D) (N := 31) hx hb ht zi_D ty_D tyok_D nm_D hown hK hP hD hS 0 rfl rfl 3 (by decide) (ht _ zw_857) (fun _ h9 => h9) rfl (by decide +kernel) rfl rfl (Nat.le_of_ble_eq_true rfl) d_D_put_2 (fun H locs hP hD hS => ?_)
  have hP : va_P D vwCl (wD h c (upd st.1 0 (0 : Int32), st.2.1, st.2.2.1, st.2.2.2.1, st.2.2.2.2.1, st.2.2.2.2.2)) H := hP
  have hD : va_D A (wD h c (upd st.1 0 (0 : Int32), st.2.1, st.2.2.1, st.2.2.2.1, st.2.2.2.2.1, st.2.2.2.2.2)) := hD
  refine lv_aload_n hx hb d_D_put_5 rfl (lv_at hl 0 rfl) ?_
  refine lv_iload_n hx hb d_D_put_6 rfl (lv_at hl 1 rfl) ?_
  refine zc_i (w2 := fun _ => wD h c (upd st.1 0 (0 : Int32), st.2.1, st.2.2.1, st.2.2.2.1, st.2.2.2.2.1, st.2.2.2.2.2)) (va_runS (As := [.int p0]) (rest := [.ref (h 20)]) ⟨hx, hb, hml, hown, ht⟩ (mt_D_isWord l D H.size p0) (cwS 1 ht (zgS zw_957 zw_958 zw_7 zw_959) rfl rfl rfl kd_D_isWord ⟨Nat.le_of_ble_eq_true rfl, Nat.le_of_ble_eq_true rfl⟩) ⟨zw_blind zw_tt, zw_go (hP.sub (ws' := []) [] rfl) (hD.sub (ws' := []) [] (by decide) rfl) (hK.sub (tys' := []) [] rfl) (fun _ _ _ => trivial)⟩ rfl rfl hl.1 rfl (lv_room (Nat.le_of_ble_eq_true rfl)) d_D_put_7 ⟨Nat.le_of_ble_eq_true rfl, Nat.le_of_ble_eq_true rfl⟩) hP hD hS hA [] [0, 1, 2, 3, 4, 5, 6, 7, 8] [0, 1, 2, 3, 4, 5, 6, 7, 8] rfl rfl (by decide) (by decide) (by decide) (fun _ => rfl) (fun r_1 _ H locs hw hP hD hS => ?_)
  have er_1 := hw
  refine zcut (X := Int32) (G := fun v9 H locs ls => v9 = (if r_1 = (0 : Int32) then (1 : Int32) else (0 : Int32)) ∧ va_P D vwCl (wD h c (upd st.1 0 (0 : Int32), st.2.1, st.2.2.1, st.2.2.2.1, st.2.2.2.2.1, st.2.2.2.2.2)) H ∧ va_D A (wD h c (upd st.1 0 (0 : Int32), st.2.1, st.2.2.1, st.2.2.2.1, st.2.2.2.2.1, st.2.2.2.2.2)) ∧ va_S A s.heap H locs ∧ lv_has ls 4 [(0, .ref (h 20)), (1, .int p0), (2, .int p1)]) (fr := fun v9 ls => F0 m 18 ls [.int v9, .ref (h 20)]) (fun J_3 => ?_) (fun v9 H locs ls hG => ?_)
  · refine lv_if_ne (tgt := 17) hx hb d_D_put_10 (by decide) (fun c_4 => ?_) (fun c_4 => ?_)
    · refine lv_iconst (v := (0 : Int32)) hx hb d_D_put_17 (by decide) ?_
      exact J_3 (0 : Int32) _ _ _ ⟨by simp only [if_neg c_4], hP, hD, hS, hl⟩
    refine lv_iconst (v := (1 : Int32)) hx hb d_D_put_13 (by decide) ?_
    refine lv_goto (tgt := 18) hx hb d_D_put_14 (by decide) ?_
    exact J_3 (1 : Int32) _ _ _ ⟨by simp only [if_pos c_4], hP, hD, hS, hl⟩
  obtain ⟨x_2, rfl⟩ : ∃ z, z = v9 := ⟨_, rfl⟩
  obtain ⟨ex_2, hP, hD, hS, hl⟩ := hG
  have zbx_2 : zB x_2 := by rw [ex_2]; repeat' first | with_reducible exact zB0 | with_reducible exact zB1 | with_reducible assumption | with_reducible refine zB_ite ?_ ?_
  refine lv_iconst (v := (1 : Int32)) hx hb d_D_put_18 (by decide) ?_
  refine zc_i (w2 := fun u9 => wD h c u9) (va_runV (As := [.int x_2, .int (1 : Int32)]) (rest := []) ⟨hx, hb, hml, hown, ht⟩ (mt_D_fails l D h c H.size (upd st.1 0 (0 : Int32), st.2.1, st.2.2.1, st.2.2.2.1, st.2.2.2.2.1, st.2.2.2.2.2) x_2 (1 : Int32)) (cwV 2 ht (zgV zw_964 zw_966 zs_53 zw_7 zw_967) rfl rfl rfl kd_D_fails ⟨Nat.le_of_ble_eq_true rfl, Nat.le_of_ble_eq_true rfl⟩) ⟨zw_blind zw_tt, va_recv (hK.sub (tys' := [(c 21, .long), (c 22, .int), (c 23, .int), (c 24, .int), (c 25, .int), (c 26, .int), (c 27, .int), (c 28, .int)]) [0, 1, 2, 3, 4, 5, 6, 7] rfl) (hP.sub (ws' := wD h c (upd st.1 0 (0 : Int32), st.2.1, st.2.2.1, st.2.2.2.1, st.2.2.2.2.1, st.2.2.2.2.2)) [0, 1, 2, 3, 4, 5, 6, 7, 8] rfl) (ci := 6) (q0 := 0) rfl rfl, zw_go (hP.sub (ws' := wD h c (upd st.1 0 (0 : Int32), st.2.1, st.2.2.1, st.2.2.2.1, st.2.2.2.2.1, st.2.2.2.2.2)) [0, 1, 2, 3, 4, 5, 6, 7, 8] rfl) (hD.sub (ws' := wD h c (upd st.1 0 (0 : Int32), st.2.1, st.2.2.1, st.2.2.2.1, st.2.2.2.2.1, st.2.2.2.2.2)) [0, 1, 2, 3, 4, 5, 6, 7, 8] (by decide) rfl) (hK.sub (tys' := [(c 21, .long), (c 22, .int), (c 23, .int), (c 24, .int), (c 25, .int), (c 26, .int), (c 27, .int), (c 28, .int)]) [0, 1, 2, 3, 4, 5, 6, 7] rfl) (fun _ _ _ => trivial)⟩ rfl rfl hl.1 rfl (lv_room (Nat.le_of_ble_eq_true rfl)) d_D_put_19 ⟨Nat.le_of_ble_eq_true rfl, Nat.le_of_ble_eq_true rfl⟩) hP hD hS hA [0, 1, 2, 3, 4, 5, 6, 7, 8] [] [0, 1, 2, 3, 4, 5, 6, 7, 8] rfl rfl (by decide) (by decide) (by decide) (fun _ => rfl) (fun r_5 u_5 H locs hw hP hD hS => ?_)
  obtain ⟨er_5, eu_5⟩ := hw
  refine lv_if_eq (tgt := 27) hx hb d_D_put_22 (by decide) (fun c_6 => ?_) (fun c_6 => ?_)
  · refine lv_aload_n hx hb d_D_put_27 rfl (lv_at hl 0 rfl) ?_
    refine lv_iload_n hx hb d_D_put_28 rfl (lv_at hl 1 rfl) ?_
    refine lv_iconst (v := (4 : Int32)) hx hb d_D_put_29 (by decide) ?_
    refine zc_i (w2 := fun _ => wD h c u_5) (va_runV (As := [.int p0, .int (4 : Int32)]) (rest := []) ⟨hx, hb, hml, hown, ht⟩ (mt_D_take l D h c H.size u_5 p0 (4 : Int32) (pw_in er_1 ex_2 er_5 c_6)) (cwV 2 ht (zgV zw_968 zw_970 zs_54 zw_7 zw_971) rfl rfl rfl kd_D_take ⟨Nat.le_of_ble_eq_true rfl, Nat.le_of_ble_eq_true rfl⟩) ⟨zw_blind zw_tt, va_recv (hK.sub (tys' := [(c 21, .long), (c 22, .int), (c 23, .int), (c 24, .int), (c 25, .int), (c 26, .int), (c 27, .int), (c 28, .int)]) [0, 1, 2, 3, 4, 5, 6, 7] rfl) (hP.sub (ws' := wD h c u_5) [0, 1, 2, 3, 4, 5, 6, 7, 8] rfl) (ci := 6) (q0 := 0) rfl rfl, zw_go (hP.sub (ws' := wD h c u_5) [0, 1, 2, 3, 4, 5, 6, 7, 8] rfl) (hD.sub (ws' := wD h c u_5) [0, 1, 2, 3, 4, 5, 6, 7, 8] (by decide) rfl) (hK.sub (tys' := [(c 21, .long), (c 22, .int), (c 23, .int), (c 24, .int), (c 25, .int), (c 26, .int), (c 27, .int), (c 28, .int)]) [0, 1, 2, 3, 4, 5, 6, 7] rfl) (fun _ _ _ => trivial)⟩ rfl rfl hl.1 rfl (lv_room (Nat.le_of_ble_eq_true rfl)) d_D_put_30 ⟨Nat.le_of_ble_eq_true rfl, Nat.le_of_ble_eq_true rfl⟩) hP hD hS hA [0, 1, 2, 3, 4, 5, 6, 7, 8] [] [0, 1, 2, 3, 4, 5, 6, 7, 8] rfl rfl (by decide) (by decide) (by decide) (fun _ => rfl) (fun r_7 _ H locs hw hP hD hS => ?_)
    have er_7 := hw
    refine lv_istore_n (lv' := [(3, .int r_7), (0, .ref (h 20)), (1, .int p0), (2, .int p1)]) hx hb d_D_put_33 rfl hl (by decide) rfl (fun ls hl => ?_)
    refine lv_aload_n hx hb d_D_put_34 rfl (lv_at hl 1 rfl) ?_
    refine lv_iload_n hx hb d_D_put_35 rfl (lv_at hl 2 rfl) ?_
    refine lv_iconst (v := (4 : Int32)) hx hb d_D_put_36 (by decide) ?_
    refine lv_iload_n hx hb d_D_put_37 rfl (lv_at hl 3 rfl) ?_
    refine zc_v (w2 := fun u9 => wD h c u9) (va_runV (As := [.int p0, .int (4 : Int32), .int p1]) (rest := []) ⟨hx, hb, hml, hown, ht⟩ (mt_D_store l D h c H.size u_5 p0 (4 : Int32) p1 (pw_in er_1 ex_2 er_5 c_6)) (cwV 3 ht (zgV zw_972 zw_974 zs_55 zw_7 zw_975) rfl rfl rfl kd_D_store ⟨Nat.le_of_ble_eq_true rfl, Nat.le_of_ble_eq_true rfl⟩) ⟨zw_blind zw_tt, va_recv (hK.sub (tys' := [(c 21, .long), (c 22, .int), (c 23, .int), (c 24, .int), (c 25, .int), (c 26, .int), (c 27, .int), (c 28, .int)]) [0, 1, 2, 3, 4, 5, 6, 7] rfl) (hP.sub (ws' := wD h c u_5) [0, 1, 2, 3, 4, 5, 6, 7, 8] rfl) (ci := 6) (q0 := 0) rfl rfl, zw_go (hP.sub (ws' := wD h c u_5) [0, 1, 2, 3, 4, 5, 6, 7, 8] rfl) (hD.sub (ws' := wD h c u_5) [0, 1, 2, 3, 4, 5, 6, 7, 8] (by decide) rfl) (hK.sub (tys' := [(c 21, .long), (c 22, .int), (c 23, .int), (c 24, .int), (c 25, .int), (c 26, .int), (c 27, .int), (c 28, .int)]) [0, 1, 2, 3, 4, 5, 6, 7] rfl) (fun _ _ _ => trivial)⟩ rfl rfl hl.1 rfl (lv_room (Nat.le_of_ble_eq_true rfl)) d_D_put_38 ⟨Nat.le_of_ble_eq_true rfl, Nat.le_of_ble_eq_true rfl⟩) hP hD hS hA [0, 1, 2, 3, 4, 5, 6, 7, 8] [] [0, 1, 2, 3, 4, 5, 6, 7, 8] rfl rfl (by decide) (by decide) (by decide) (fun _ => rfl) (fun u_8 H locs hw hP hD hS => ?_)
    have eu_8 := hw
    refine lv_iload_n hx hb d_D_put_41 rfl (lv_at hl 0 rfl) ?_
    exact zl_i (u := u_8) hx hb hr hlocks hS hP hD (⟨by simp only [m_put, ← er_1, ← ex_2, ← er_5, ← eu_5, ← er_7, ← eu_8, if_pos c_6], by simp only [m_put, ← er_1, ← ex_2, ← er_5, ← eu_5, ← er_7, ← eu_8, if_pos c_6]⟩) d_D_put_42
  refine lv_iconst (v := (0 : Int32)) hx hb d_D_put_25 (by decide) ?_
  exact zl_i (u := u_5) hx hb hr hlocks hS hP hD (⟨by simp only [m_put, ← er_1, ← ex_2, ← er_5, ← eu_5, if_neg c_6], by simp only [m_put, ← er_1, ← ex_2, ← er_5, ← eu_5, if_neg c_6]⟩) d_D_put_26
theorem d_D_word_0 : decode c_D_word 0 = .ok (.aload_n 0, 1) := by decide +kernel
theorem d_D_word_1 : decode c_D_word 1 = .ok (.iconst 0, 1) := by decide +kernel
theorem d_D_word_2 : decode c_D_word 2 = .ok (.putfield 228, 3) := by decide +kernel
theorem d_D_word_5 : decode c_D_word 5 = .ok (.aload_n 0, 1) := by decide +kernel
theorem d_D_word_6 : decode c_D_word 6 = .ok (.iload_n 1, 1) := by decide +kernel
theorem d_D_word_7 : decode c_D_word 7 = .ok (.invokestatic 286, 3) := by decide +kernel
theorem d_D_word_10 : decode c_D_word 10 = .ok (.ifCond .ne 7, 3) := by decide +kernel
theorem d_D_word_13 : decode c_D_word 13 = .ok (.iconst 1, 1) := by decide +kernel
theorem d_D_word_14 : decode c_D_word 14 = .ok (.goto 4, 3) := by decide +kernel
theorem d_D_word_17 : decode c_D_word 17 = .ok (.iconst 0, 1) := by decide +kernel
theorem d_D_word_18 : decode c_D_word 18 = .ok (.iconst 1, 1) := by decide +kernel
theorem d_D_word_19 : decode c_D_word 19 = .ok (.invokevirtual 290, 3) := by decide +kernel
theorem d_D_word_22 : decode c_D_word 22 = .ok (.ifCond .eq 7, 3) := by decide +kernel
theorem d_D_word_25 : decode c_D_word 25 = .ok (.iconst 0, 1) := by decide +kernel
theorem d_D_word_26 : decode c_D_word 26 = .ok (.goto 9, 3) := by decide +kernel
theorem d_D_word_29 : decode c_D_word 29 = .ok (.aload_n 0, 1) := by decide +kernel
theorem d_D_word_30 : decode c_D_word 30 = .ok (.iload_n 1, 1) := by decide +kernel
theorem d_D_word_31 : decode c_D_word 31 = .ok (.iconst 4, 1) := by decide +kernel
theorem d_D_word_32 : decode c_D_word 32 = .ok (.invokevirtual 294, 3) := by decide +kernel
theorem d_D_word_35 : decode c_D_word 35 = .ok (.ireturn, 1) := by decide +kernel
theorem kd_D_word : (y_D_word).cls = "WindowMachineModel" ∧ (y_D_word).cls ≠ "java/lang/invoke/MethodHandle" ∧ (y_D_word).cls ≠ "java/lang/invoke/VarHandle" ∧ (parseMethodDescriptor (y_D_word).desc).map (fun d => d.parameters.length) = some 1 := by decide +kernel
def m_word (st : SD) (p0 : Int32) : Int32 × SD := (let r_1 := m_isWord p0; (let x_2 := (if r_1 = (0 : Int32) then (1 : Int32) else (0 : Int32)); (let r_5 := (m_fails (upd st.1 0 (0 : Int32), st.2.1, st.2.2.1, st.2.2.2.1, st.2.2.2.2.1, st.2.2.2.2.2) x_2 (1 : Int32)).1; (let u_5 := (m_fails (upd st.1 0 (0 : Int32), st.2.1, st.2.2.1, st.2.2.2.1, st.2.2.2.2.1, st.2.2.2.2.2) x_2 (1 : Int32)).2; (let x_6 := (if r_5 = (0 : Int32) then m_take u_5 p0 (4 : Int32) else (0 : Int32)); (x_6, u_5))))))
set_option maxHeartbeats 4000000 in
set_option maxRecDepth 100000 in
theorem mt_D_word (l : Launch) (D : va_G) (h : Nat → Nat) (c : Nat → ClassId) (sz : Nat) (st : SD) (p0 : Int32) : Met l y_D_word w_D_word ({ frames := 2, cells := 0, slots := 0, locals := 45 }) (va_Pc [.ref (h 20), .int p0] (zw_pre D vwCl [(c 21, .long), (c 22, .int), (c 23, .int), (c 24, .int), (c 25, .int), (c 26, .int), (c 27, .int), (c 28, .int)] sz (wD h c st) (fun _ => True))) (va_Qi (fun r (u : SD) => r = (m_word st p0).1 ∧ u = (m_word st p0).2) (fun u t => zw_at D vwCl (va_A (wD h c st) sz) ((fun (u : SD) => wD h c u) u) t) (va_A (wD h c st) sz)) 0 0 (va_A (wD h c st) sz) := by
  refine zm (Qf := fun A => va_Qi (fun r (u : SD) => r = (m_word st p0).1 ∧ u = (m_word st p0).2) (fun u t => zw_at D vwCl A ((fun (u : SD) => wD h c u) u) t) A) (Zf := fun _ _ => True) (cc := c_D_word) (nL := 2) (ret := (some .int)) (by decide) rfl (Nat.le_of_ble_eq_true rfl) ?_
  intro p e s m below meth c9 A H locs ls hx hb hml hown hts hr hlocks hA hK hP hD hS hZ hl
  have hl : lv_has ls 2 [(0, .ref (h 20)), (1, .int p0)] := hl
  have ht : ∀ w9 ∈ zT, w9.before _ s = true := fun w9 h9 => hts w9 (List.mem_cons_of_mem _ h9)
  refine lv_aload_n hx hb d_D_word_0 rfl (lv_at hl 0 rfl) ?_
  refine lv_iconst (v := (0 : Int32)) hx hb d_D_word_1 (by decide) ?_
  refine va_put (D := D) (ci := 6) (v := .int (0 : Int32)) (ty := .int) (C := "WindowMachineModel") (T := T_D) (N := 31) hx hb ht zi_D ty_D tyok_D nm_D hown hK hP hD hS 0 rfl rfl 3 (by decide) (ht _ zw_857) (fun _ h9 => h9) rfl (by decide +kernel) rfl rfl (Nat.le_of_ble_eq_true rfl) d_D_word_2 (fun H locs hP hD hS => ?_)
  have hP : va_P D vwCl (wD h c (upd st.1 0 (0 : Int32), st.2.1, st.2.2.1, st.2.2.2.1, st.2.2.2.2.1, st.2.2.2.2.2)) H := hP
  have hD : va_D A (wD h c (upd st.1 0 (0 : Int32), st.2.1, st.2.2.1, st.2.2.2.1, st.2.2.2.2.1, st.2.2.2.2.2)) := hD
  refine lv_aload_n hx hb d_D_word_5 rfl (lv_at hl 0 rfl) ?_
  refine lv_iload_n hx hb d_D_word_6 rfl (lv_at hl 1 rfl) ?_
  refine zc_i (w2 := fun _ => wD h c (upd st.1 0 (0 : Int32), st.2.1, st.2.2.1, st.2.2.2.1, st.2.2.2.2.1, st.2.2.2.2.2)) (va_runS (As := [.int p0]) (rest := [.ref (h 20)]) ⟨hx, hb, hml, hown, ht⟩ (mt_D_isWord l D H.size p0) (cwS 1 ht (zgS zw_957 zw_958 zw_7 zw_959) rfl rfl rfl kd_D_isWord ⟨Nat.le_of_ble_eq_true rfl, Nat.le_of_ble_eq_true rfl⟩) ⟨zw_blind zw_tt, zw_go (hP.sub (ws' := []) [] rfl) (hD.sub (ws' := []) [] (by decide) rfl) (hK.sub (tys' := []) [] rfl) (fun _ _ _ => trivial)⟩ rfl rfl hl.1 rfl (lv_room (Nat.le_of_ble_eq_true rfl)) d_D_word_7 ⟨Nat.le_of_ble_eq_true rfl, Nat.le_of_ble_eq_true rfl⟩) hP hD hS hA [] [0, 1, 2, 3, 4, 5, 6, 7, 8] [0, 1, 2, 3, 4, 5, 6, 7, 8] rfl rfl (by decide) (by decide) (by decide) (fun _ => rfl) (fun r_1 _ H locs hw hP hD hS => ?_)
  have er_1 := hw
  refine zcut (X := Int32) (G := fun v9 H locs ls => v9 = (if r_1 = (0 : Int32) then (1 : Int32) else (0 : Int32)) ∧ va_P D vwCl (wD h c (upd st.1 0 (0 : Int32), st.2.1, st.2.2.1, st.2.2.2.1, st.2.2.2.2.1, st.2.2.2.2.2)) H ∧ va_D A (wD h c (upd st.1 0 (0 : Int32), st.2.1, st.2.2.1, st.2.2.2.1, st.2.2.2.2.1, st.2.2.2.2.2)) ∧ va_S A s.heap H locs ∧ lv_has ls 2 [(0, .ref (h 20)), (1, .int p0)]) (fr := fun v9 ls => F0 m 18 ls [.int v9, .ref (h 20)]) (fun J_3 => ?_) (fun v9 H locs ls hG => ?_)
  · refine lv_if_ne (tgt := 17) hx hb d_D_word_10 (by decide) (fun c_4 => ?_) (fun c_4 => ?_)
    · refine lv_iconst (v := (0 : Int32)) hx hb d_D_word_17 (by decide) ?_
      exact J_3 (0 : Int32) _ _ _ ⟨by simp only [if_neg c_4], hP, hD, hS, hl⟩
    refine lv_iconst (v := (1 : Int32)) hx hb d_D_word_13 (by decide) ?_
    refine lv_goto (tgt := 18) hx hb d_D_word_14 (by decide) ?_
    exact J_3 (1 : Int32) _ _ _ ⟨by simp only [if_pos c_4], hP, hD, hS, hl⟩
  obtain ⟨x_2, rfl⟩ : ∃ z, z = v9 := ⟨_, rfl⟩
  obtain ⟨ex_2, hP, hD, hS, hl⟩ := hG
  have zbx_2 : zB x_2 := by rw [ex_2]; repeat' first | with_reducible exact zB0 | with_reducible exact zB1 | with_reducible assumption | with_reducible refine zB_ite ?_ ?_
  refine lv_iconst (v := (1 : Int32)) hx hb d_D_word_18 (by decide) ?_
  refine zc_i (w2 := fun u9 => wD h c u9) (va_runV (As := [.int x_2, .int (1 : Int32)]) (rest := []) ⟨hx, hb, hml, hown, ht⟩ (mt_D_fails l D h c H.size (upd st.1 0 (0 : Int32), st.2.1, st.2.2.1, st.2.2.2.1, st.2.2.2.2.1, st.2.2.2.2.2) x_2 (1 : Int32)) (cwV 2 ht (zgV zw_964 zw_966 zs_53 zw_7 zw_967) rfl rfl rfl kd_D_fails ⟨Nat.le_of_ble_eq_true rfl, Nat.le_of_ble_eq_true rfl⟩) ⟨zw_blind zw_tt, va_recv (hK.sub (tys' := [(c 21, .long), (c 22, .int), (c 23, .int), (c 24, .int), (c 25, .int), (c 26, .int), (c 27, .int), (c 28, .int)]) [0, 1, 2, 3, 4, 5, 6, 7] rfl) (hP.sub (ws' := wD h c (upd st.1 0 (0 : Int32), st.2.1, st.2.2.1, st.2.2.2.1, st.2.2.2.2.1, st.2.2.2.2.2)) [0, 1, 2, 3, 4, 5, 6, 7, 8] rfl) (ci := 6) (q0 := 0) rfl rfl, zw_go (hP.sub (ws' := wD h c (upd st.1 0 (0 : Int32), st.2.1, st.2.2.1, st.2.2.2.1, st.2.2.2.2.1, st.2.2.2.2.2)) [0, 1, 2, 3, 4, 5, 6, 7, 8] rfl) (hD.sub (ws' := wD h c (upd st.1 0 (0 : Int32), st.2.1, st.2.2.1, st.2.2.2.1, st.2.2.2.2.1, st.2.2.2.2.2)) [0, 1, 2, 3, 4, 5, 6, 7, 8] (by decide) rfl) (hK.sub (tys' := [(c 21, .long), (c 22, .int), (c 23, .int), (c 24, .int), (c 25, .int), (c 26, .int), (c 27, .int), (c 28, .int)]) [0, 1, 2, 3, 4, 5, 6, 7] rfl) (fun _ _ _ => trivial)⟩ rfl rfl hl.1 rfl (lv_room (Nat.le_of_ble_eq_true rfl)) d_D_word_19 ⟨Nat.le_of_ble_eq_true rfl, Nat.le_of_ble_eq_true rfl⟩) hP hD hS hA [0, 1, 2, 3, 4, 5, 6, 7, 8] [] [0, 1, 2, 3, 4, 5, 6, 7, 8] rfl rfl (by decide) (by decide) (by decide) (fun _ => rfl) (fun r_5 u_5 H locs hw hP hD hS => ?_)
  obtain ⟨er_5, eu_5⟩ := hw
  refine zcut (X := Int32) (G := fun v9 H locs ls => v9 = (if r_5 = (0 : Int32) then m_take u_5 p0 (4 : Int32) else (0 : Int32)) ∧ va_P D vwCl (wD h c u_5) H ∧ va_D A (wD h c u_5) ∧ va_S A s.heap H locs ∧ lv_has ls 2 [(0, .ref (h 20)), (1, .int p0)]) (fr := fun v9 ls => F0 m 35 ls [.int v9]) (fun J_7 => ?_) (fun v9 H locs ls hG => ?_)
  · refine lv_if_eq (tgt := 29) hx hb d_D_word_22 (by decide) (fun c_8 => ?_) (fun c_8 => ?_)
    · refine lv_aload_n hx hb d_D_word_29 rfl (lv_at hl 0 rfl) ?_
      refine lv_iload_n hx hb d_D_word_30 rfl (lv_at hl 1 rfl) ?_
      refine lv_iconst (v := (4 : Int32)) hx hb d_D_word_31 (by decide) ?_
      refine zc_i (w2 := fun _ => wD h c u_5) (va_runV (As := [.int p0, .int (4 : Int32)]) (rest := []) ⟨hx, hb, hml, hown, ht⟩ (mt_D_take l D h c H.size u_5 p0 (4 : Int32) (pw_in er_1 ex_2 er_5 c_8)) (cwV 2 ht (zgV zw_968 zw_970 zs_54 zw_7 zw_971) rfl rfl rfl kd_D_take ⟨Nat.le_of_ble_eq_true rfl, Nat.le_of_ble_eq_true rfl⟩) ⟨zw_blind zw_tt, va_recv (hK.sub (tys' := [(c 21, .long), (c 22, .int), (c 23, .int), (c 24, .int), (c 25, .int), (c 26, .int), (c 27, .int), (c 28, .int)]) [0, 1, 2, 3, 4, 5, 6, 7] rfl) (hP.sub (ws' := wD h c u_5) [0, 1, 2, 3, 4, 5, 6, 7, 8] rfl) (ci := 6) (q0 := 0) rfl rfl, zw_go (hP.sub (ws' := wD h c u_5) [0, 1, 2, 3, 4, 5, 6, 7, 8] rfl) (hD.sub (ws' := wD h c u_5) [0, 1, 2, 3, 4, 5, 6, 7, 8] (by decide) rfl) (hK.sub (tys' := [(c 21, .long), (c 22, .int), (c 23, .int), (c 24, .int), (c 25, .int), (c 26, .int), (c 27, .int), (c 28, .int)]) [0, 1, 2, 3, 4, 5, 6, 7] rfl) (fun _ _ _ => trivial)⟩ rfl rfl hl.1 rfl (lv_room (Nat.le_of_ble_eq_true rfl)) d_D_word_32 ⟨Nat.le_of_ble_eq_true rfl, Nat.le_of_ble_eq_true rfl⟩) hP hD hS hA [0, 1, 2, 3, 4, 5, 6, 7, 8] [] [0, 1, 2, 3, 4, 5, 6, 7, 8] rfl rfl (by decide) (by decide) (by decide) (fun _ => rfl) (fun r_9 _ H locs hw hP hD hS => ?_)
      subst hw
      exact J_7 (m_take u_5 p0 (4 : Int32)) _ _ _ ⟨by simp only [if_pos c_8], hP, hD, hS, hl⟩
    refine lv_iconst (v := (0 : Int32)) hx hb d_D_word_25 (by decide) ?_
    refine lv_goto (tgt := 35) hx hb d_D_word_26 (by decide) ?_
    exact J_7 (0 : Int32) _ _ _ ⟨by simp only [if_neg c_8], hP, hD, hS, hl⟩
  obtain ⟨x_6, rfl⟩ : ∃ z, z = v9 := ⟨_, rfl⟩
  obtain ⟨ex_6, hP, hD, hS, hl⟩ := hG
  exact zl_i (u := u_5) hx hb hr hlocks hS hP hD (⟨by simp only [m_word, ← er_1, ← ex_2, ← er_5, ← eu_5, ← ex_6], by simp only [m_word, ← er_1, ← ex_2, ← er_5, ← eu_5, ← ex_6]⟩) d_D_word_35
