section
variable {Q : SD → Prop}
theorem cl_step (h : clQ Q) {d : SD} (hd : Q d) : Q (m_step d) := by
  unfold m_step
  dsimp only
  have e : ∀ u : SD, Q u → Q (if (u.1 21) < (0 : Int32) then (upd (upd u.1 4 (u.1 5)) 5 (u.1 22), u.2.1, u.2.2.1, u.2.2.2.1, u.2.2.2.2.1, u.2.2.2.2.2) else m_trapped u) := fun u hu => cl_if (cl_u h (d := (_, _)) (cl_u h hu)) (cl_trapped h hu)
  have q1 := cl_u h (i := 11) (v := d.1 11 + (1 : Int32)) hd
  have q2 := cl_u h (i := 21) (v := (-1 : Int32)) q1
  have q3 := cl_u h (i := 22) (v := d.1 5 + (4 : Int32)) q2
  refine cl_if ?_ (cl_u h (d := (_, _)) (cl_u h (d := (_, _)) (cl_u h (i := 20) (v := (0 : Int32)) q1)))
  generalize hu : m_traps (m_traps (upd (upd (upd d.1 11 ((d.1 11) + (1 : Int32))) 21 (-1 : Int32)) 22 ((d.1 5) + (4 : Int32)), d.2.1, d.2.2.1, d.2.2.2.1, d.2.2.2.2.1, d.2.2.2.2.2) _ (7 : Int32)) _ (1 : Int32) = u
  have qu : Q u := by rw [← hu]; exact cl_traps h (cl_traps h q3)
  refine cl_if (e _ qu) (cl_if ?_ (cl_if (e _ (cl_low h qu)) (cl_if (e _ (cl_middle h qu)) (e _ (cl_memoryWord h qu)))))
  exact e (upd (m_gives u (15 : Int32) (u.1 6) (u.1 4)).1 22 _, (m_gives u (15 : Int32) (u.1 6) (u.1 4)).2.1, (m_gives u (15 : Int32) (u.1 6) (u.1 4)).2.2.1, (m_gives u (15 : Int32) (u.1 6) (u.1 4)).2.2.2.1, (m_gives u (15 : Int32) (u.1 6) (u.1 4)).2.2.2.2.1, (m_gives u (15 : Int32) (u.1 6) (u.1 4)).2.2.2.2.2) (cl_u h (cl_gives h qu))
end
theorem ov_step {st : SD} (h : okV st) : okV (m_step st) := cl_step okV_cl h
theorem ov_fails {st : SD} {b k : Int32} (h : okV st) : okV (m_fails st b k).2 := by
  unfold m_fails
  dsimp only
  have h0 : okV (upd st.1 0 k, st.2.1, st.2.2.1, st.2.2.2.1, st.2.2.2.2.1, st.2.2.2.2.2) := h
  exact okV_ite h (okV_ite h0 h)
theorem d_D_run_0 : decode c_D_run 0 = .ok (.aload_n 0, 1) := by decide +kernel
theorem d_D_run_1 : decode c_D_run 1 = .ok (.iconst 0, 1) := by decide +kernel
theorem d_D_run_2 : decode c_D_run 2 = .ok (.putfield 228, 3) := by decide +kernel
theorem d_D_run_5 : decode c_D_run 5 = .ok (.aload_n 0, 1) := by decide +kernel
theorem d_D_run_6 : decode c_D_run 6 = .ok (.iload_n 1, 1) := by decide +kernel
theorem d_D_run_7 : decode c_D_run 7 = .ok (.i2l, 1) := by decide +kernel
theorem d_D_run_8 : decode c_D_run 8 = .ok (.lconst 1, 1) := by decide +kernel
theorem d_D_run_9 : decode c_D_run 9 = .ok (.ldc2_w 393, 3) := by decide +kernel
theorem d_D_run_12 : decode c_D_run 12 = .ok (.invokestatic 282, 3) := by decide +kernel
theorem d_D_run_15 : decode c_D_run 15 = .ok (.ifCond .ne 7, 3) := by decide +kernel
theorem d_D_run_18 : decode c_D_run 18 = .ok (.iconst 1, 1) := by decide +kernel
theorem d_D_run_19 : decode c_D_run 19 = .ok (.goto 4, 3) := by decide +kernel
theorem d_D_run_22 : decode c_D_run 22 = .ok (.iconst 0, 1) := by decide +kernel
theorem d_D_run_23 : decode c_D_run 23 = .ok (.iconst 1, 1) := by decide +kernel
theorem d_D_run_24 : decode c_D_run 24 = .ok (.invokevirtual 290, 3) := by decide +kernel
theorem d_D_run_27 : decode c_D_run 27 = .ok (.ifCond .ne 23, 3) := by decide +kernel
theorem d_D_run_30 : decode c_D_run 30 = .ok (.aload_n 0, 1) := by decide +kernel
theorem d_D_run_31 : decode c_D_run 31 = .ok (.aload_n 0, 1) := by decide +kernel
theorem d_D_run_32 : decode c_D_run 32 = .ok (.getfield 221, 3) := by decide +kernel
theorem d_D_run_35 : decode c_D_run 35 = .ok (.ifCond .lt 7, 3) := by decide +kernel
theorem d_D_run_38 : decode c_D_run 38 = .ok (.iconst 1, 1) := by decide +kernel
theorem d_D_run_39 : decode c_D_run 39 = .ok (.goto 4, 3) := by decide +kernel
theorem d_D_run_42 : decode c_D_run 42 = .ok (.iconst 0, 1) := by decide +kernel
theorem d_D_run_43 : decode c_D_run 43 = .ok (.iconst 2, 1) := by decide +kernel
theorem d_D_run_44 : decode c_D_run 44 = .ok (.invokevirtual 290, 3) := by decide +kernel
theorem d_D_run_47 : decode c_D_run 47 = .ok (.ifCond .eq 5, 3) := by decide +kernel
theorem d_D_run_50 : decode c_D_run 50 = .ok (.iconst 0, 1) := by decide +kernel
theorem d_D_run_51 : decode c_D_run 51 = .ok (.ireturn, 1) := by decide +kernel
theorem d_D_run_52 : decode c_D_run 52 = .ok (.iconst 0, 1) := by decide +kernel
theorem d_D_run_53 : decode c_D_run 53 = .ok (.istore_n 2, 1) := by decide +kernel
theorem d_D_run_54 : decode c_D_run 54 = .ok (.iload_n 2, 1) := by decide +kernel
theorem d_D_run_55 : decode c_D_run 55 = .ok (.iload_n 1, 1) := by decide +kernel
theorem d_D_run_56 : decode c_D_run 56 = .ok (.if_icmp .ge 20, 3) := by decide +kernel
theorem d_D_run_59 : decode c_D_run 59 = .ok (.aload_n 0, 1) := by decide +kernel
theorem d_D_run_60 : decode c_D_run 60 = .ok (.getfield 221, 3) := by decide +kernel
theorem d_D_run_63 : decode c_D_run 63 = .ok (.ifCond .ge 13, 3) := by decide +kernel
theorem d_D_run_66 : decode c_D_run 66 = .ok (.aload_n 0, 1) := by decide +kernel
theorem d_D_run_67 : decode c_D_run 67 = .ok (.invokevirtual 395, 3) := by decide +kernel
theorem d_D_run_70 : decode c_D_run 70 = .ok (.iinc 2 1, 3) := by decide +kernel
theorem d_D_run_73 : decode c_D_run 73 = .ok (.goto (-19), 3) := by decide +kernel
theorem d_D_run_76 : decode c_D_run 76 = .ok (.iload_n 2, 1) := by decide +kernel
theorem d_D_run_77 : decode c_D_run 77 = .ok (.ireturn, 1) := by decide +kernel
theorem kd_D_run : (y_D_run).cls = "WindowMachineModel" ∧ (y_D_run).cls ≠ "java/lang/invoke/MethodHandle" ∧ (y_D_run).cls ≠ "java/lang/invoke/VarHandle" ∧ (parseMethodDescriptor (y_D_run).desc).map (fun d => d.parameters.length) = some 1 := by decide +kernel
def fl_D_run_54 (st : SD) (p0 : Int32) : Nat → Nat → SD → Int32 × SD
  | 0, _, u_13 => (0, u_13)
  | n9 + 1, i_12, u_13 => (if p0 ≤ (nI i_12) then (nI i_12, u_13) else (if (0 : Int32) ≤ (u_13.1 10) then (nI i_12, u_13) else (let u_17 := m_step u_13; fl_D_run_54 st p0 n9 (i_12 + 1) u_17)))
def m_run (st : SD) (p0 : Int32) : Int32 × SD := (let r_1 := m_in p0.toInt64 (1 : Int64) (200 : Int64); (let x_2 := (if r_1 = (0 : Int32) then (1 : Int32) else (0 : Int32)); (let r_5 := (m_fails (upd st.1 0 (0 : Int32), st.2.1, st.2.2.1, st.2.2.2.1, st.2.2.2.2.1, st.2.2.2.2.2) x_2 (1 : Int32)).1; (let u_5 := (m_fails (upd st.1 0 (0 : Int32), st.2.1, st.2.2.1, st.2.2.2.1, st.2.2.2.2.1, st.2.2.2.2.2) x_2 (1 : Int32)).2; (if r_5 = (0 : Int32) then (let x_7 := (if (u_5.1 10) < (0 : Int32) then (0 : Int32) else (1 : Int32)); (let r_10 := (m_fails u_5 x_7 (2 : Int32)).1; (let u_10 := (m_fails u_5 x_7 (2 : Int32)).2; (if r_10 = (0 : Int32) then fl_D_run_54 st p0 202 0 u_10 else ((0 : Int32), u_10))))) else ((0 : Int32), u_5))))))
set_option maxHeartbeats 4000000 in
set_option maxRecDepth 100000 in
theorem mt_D_run (l : Launch) (D : va_G) (h : Nat → Nat) (c : Nat → ClassId) (sz : Nat) (st : SD) (p0 : Int32) (hV : okV st) : Met l y_D_run w_D_run ({ frames := 5, cells := 0, slots := 0, locals := 141 }) (va_Pc [.ref (h 20), .int p0] (zw_pre D vwCl [(c 21, .long), (c 22, .int), (c 23, .int), (c 24, .int), (c 25, .int), (c 26, .int), (c 27, .int), (c 28, .int)] sz (wD h c st) (fun _ => True))) (va_Qi (fun r (u : SD) => r = (m_run st p0).1 ∧ u = (m_run st p0).2) (fun u t => zw_at D vwCl (va_A (wD h c st) sz) ((fun (u : SD) => wD h c u) u) t) (va_A (wD h c st) sz)) 0 0 (va_A (wD h c st) sz) := by
  refine zm (Qf := fun A => va_Qi (fun r (u : SD) => r = (m_run st p0).1 ∧ u = (m_run st p0).2) (fun u t => zw_at D vwCl A ((fun (u : SD) => wD h c u) u) t) A) (Zf := fun _ _ => True) (cc := c_D_run) (nL := 3) (ret := (some .int)) (by decide) rfl (Nat.le_of_ble_eq_true rfl) ?_
  intro p e s m below meth c9 A H locs ls hx hb hml hown hts hr hlocks hA hK hP hD hS hZ hl
  have hl : lv_has ls 3 [(0, .ref (h 20)), (1, .int p0)] := hl
  have ht : ∀ w9 ∈ zT, w9.before _ s = true := fun w9 h9 => hts w9 (List.mem_cons_of_mem _ h9)
  refine lv_aload_n hx hb d_D_run_0 rfl (lv_at hl 0 rfl) ?_
  refine lv_iconst (v := (0 : Int32)) hx hb d_D_run_1 (by decide) ?_
  refine va_put (D := D) (ci := 6) (v := .int (0 : Int32)) (ty := .int) (C := "WindowMachineModel") (T := T_D) (N := 31) hx hb ht zi_D ty_D tyok_D nm_D hown hK hP hD hS 0 rfl rfl 3 (by decide) (ht _ zw_857) (fun _ h9 => h9) rfl (by decide +kernel) rfl rfl (Nat.le_of_ble_eq_true rfl) d_D_run_2 (fun H locs hP hD hS => ?_)
  have hP : va_P D vwCl (wD h c (upd st.1 0 (0 : Int32), st.2.1, st.2.2.1, st.2.2.2.1, st.2.2.2.2.1, st.2.2.2.2.2)) H := hP
  have hD : va_D A (wD h c (upd st.1 0 (0 : Int32), st.2.1, st.2.2.1, st.2.2.2.1, st.2.2.2.2.1, st.2.2.2.2.2)) := hD
  refine lv_aload_n hx hb d_D_run_5 rfl (lv_at hl 0 rfl) ?_
  refine lv_iload_n hx hb d_D_run_6 rfl (lv_at hl 1 rfl) ?_
  refine lv_i2l (v := p0.toInt64) hx hb d_D_run_7 rfl ?_
  refine lv_lconst (v := (1 : Int64)) hx hb d_D_run_8 (by decide) ?_
  refine lv_ldc2 (v := (200 : Int64)) hx hb hown (ht _ zw_1002) d_D_run_9 ?_
  refine zc_i (w2 := fun _ => wD h c (upd st.1 0 (0 : Int32), st.2.1, st.2.2.1, st.2.2.2.1, st.2.2.2.2.1, st.2.2.2.2.2)) (va_runS (As := [.long p0.toInt64, .long (1 : Int64), .long (200 : Int64)]) (rest := [.ref (h 20)]) ⟨hx, hb, hml, hown, ht⟩ (mt_D_in l D H.size p0.toInt64 (1 : Int64) (200 : Int64)) (cwS 3 ht (zgS zw_961 zw_962 zw_7 zw_963) rfl rfl rfl kd_D_in ⟨Nat.le_of_ble_eq_true rfl, Nat.le_of_ble_eq_true rfl⟩) ⟨zw_blind zw_tt, zw_go (hP.sub (ws' := []) [] rfl) (hD.sub (ws' := []) [] (by decide) rfl) (hK.sub (tys' := []) [] rfl) (fun _ _ _ => trivial)⟩ rfl rfl hl.1 rfl (lv_room (Nat.le_of_ble_eq_true rfl)) d_D_run_12 ⟨Nat.le_of_ble_eq_true rfl, Nat.le_of_ble_eq_true rfl⟩) hP hD hS hA [] [0, 1, 2, 3, 4, 5, 6, 7, 8] [0, 1, 2, 3, 4, 5, 6, 7, 8] rfl rfl (by decide) (by decide) (by decide) (fun _ => rfl) (fun r_1 _ H locs hw hP hD hS => ?_)
  have er_1 := hw
  refine zcut (X := Int32) (G := fun v9 H locs ls => v9 = (if r_1 = (0 : Int32) then (1 : Int32) else (0 : Int32)) ∧ va_P D vwCl (wD h c (upd st.1 0 (0 : Int32), st.2.1, st.2.2.1, st.2.2.2.1, st.2.2.2.2.1, st.2.2.2.2.2)) H ∧ va_D A (wD h c (upd st.1 0 (0 : Int32), st.2.1, st.2.2.1, st.2.2.2.1, st.2.2.2.2.1, st.2.2.2.2.2)) ∧ va_S A s.heap H locs ∧ lv_has ls 3 [(0, .ref (h 20)), (1, .int p0)]) (fr := fun v9 ls => F0 m 23 ls [.int v9, .ref (h 20)]) (fun J_3 => ?_) (fun v9 H locs ls hG => ?_)
  · refine lv_if_ne (tgt := 22) hx hb d_D_run_15 (by decide) (fun c_4 => ?_) (fun c_4 => ?_)
    · refine lv_iconst (v := (0 : Int32)) hx hb d_D_run_22 (by decide) ?_
      exact J_3 (0 : Int32) _ _ _ ⟨by simp only [if_neg c_4], hP, hD, hS, hl⟩
    refine lv_iconst (v := (1 : Int32)) hx hb d_D_run_18 (by decide) ?_
    refine lv_goto (tgt := 23) hx hb d_D_run_19 (by decide) ?_
    exact J_3 (1 : Int32) _ _ _ ⟨by simp only [if_pos c_4], hP, hD, hS, hl⟩
  obtain ⟨x_2, rfl⟩ : ∃ z, z = v9 := ⟨_, rfl⟩
  obtain ⟨ex_2, hP, hD, hS, hl⟩ := hG
  have zbx_2 : zB x_2 := by rw [ex_2]; repeat' first | with_reducible exact zB0 | with_reducible exact zB1 | with_reducible assumption | with_reducible refine zB_ite ?_ ?_
  refine lv_iconst (v := (1 : Int32)) hx hb d_D_run_23 (by decide) ?_
  refine zc_i (w2 := fun u9 => wD h c u9) (va_runV (As := [.int x_2, .int (1 : Int32)]) (rest := []) ⟨hx, hb, hml, hown, ht⟩ (mt_D_fails l D h c H.size (upd st.1 0 (0 : Int32), st.2.1, st.2.2.1, st.2.2.2.1, st.2.2.2.2.1, st.2.2.2.2.2) x_2 (1 : Int32)) (cwV 2 ht (zgV zw_964 zw_966 zs_53 zw_7 zw_967) rfl rfl rfl kd_D_fails ⟨Nat.le_of_ble_eq_true rfl, Nat.le_of_ble_eq_true rfl⟩) ⟨zw_blind zw_tt, va_recv (hK.sub (tys' := [(c 21, .long), (c 22, .int), (c 23, .int), (c 24, .int), (c 25, .int), (c 26, .int), (c 27, .int), (c 28, .int)]) [0, 1, 2, 3, 4, 5, 6, 7] rfl) (hP.sub (ws' := wD h c (upd st.1 0 (0 : Int32), st.2.1, st.2.2.1, st.2.2.2.1, st.2.2.2.2.1, st.2.2.2.2.2)) [0, 1, 2, 3, 4, 5, 6, 7, 8] rfl) (ci := 6) (q0 := 0) rfl rfl, zw_go (hP.sub (ws' := wD h c (upd st.1 0 (0 : Int32), st.2.1, st.2.2.1, st.2.2.2.1, st.2.2.2.2.1, st.2.2.2.2.2)) [0, 1, 2, 3, 4, 5, 6, 7, 8] rfl) (hD.sub (ws' := wD h c (upd st.1 0 (0 : Int32), st.2.1, st.2.2.1, st.2.2.2.1, st.2.2.2.2.1, st.2.2.2.2.2)) [0, 1, 2, 3, 4, 5, 6, 7, 8] (by decide) rfl) (hK.sub (tys' := [(c 21, .long), (c 22, .int), (c 23, .int), (c 24, .int), (c 25, .int), (c 26, .int), (c 27, .int), (c 28, .int)]) [0, 1, 2, 3, 4, 5, 6, 7] rfl) (fun _ _ _ => trivial)⟩ rfl rfl hl.1 rfl (lv_room (Nat.le_of_ble_eq_true rfl)) d_D_run_24 ⟨Nat.le_of_ble_eq_true rfl, Nat.le_of_ble_eq_true rfl⟩) hP hD hS hA [0, 1, 2, 3, 4, 5, 6, 7, 8] [] [0, 1, 2, 3, 4, 5, 6, 7, 8] rfl rfl (by decide) (by decide) (by decide) (fun _ => rfl) (fun r_5 u_5 H locs hw hP hD hS => ?_)
  obtain ⟨er_5, eu_5⟩ := hw
  have ok_5 : okV u_5 := by rw [eu_5]; exact (ov_fails hV)
  refine lv_if_ne (tgt := 50) hx hb d_D_run_27 (by decide) (fun c_6 => ?_) (fun c_6 => ?_)
  · refine lv_iconst (v := (0 : Int32)) hx hb d_D_run_50 (by decide) ?_
    exact zl_i (u := u_5) hx hb hr hlocks hS hP hD (⟨by simp only [m_run, ← er_1, ← ex_2, ← er_5, ← eu_5, if_neg c_6], by simp only [m_run, ← er_1, ← ex_2, ← er_5, ← eu_5, if_neg c_6]⟩) d_D_run_51
  refine lv_aload_n hx hb d_D_run_30 rfl (lv_at hl 0 rfl) ?_
  refine lv_aload_n hx hb d_D_run_31 rfl (lv_at hl 0 rfl) ?_
  refine va_get (D := D) (ci := 6) (v := .int (u_5.1 10)) (C := "WindowMachineModel") (T := T_D) (N := 31) hx hb ht zi_D hown hK hP 0 rfl rfl 18 (by decide) (ht _ zw_872) (fun _ h9 => h9) rfl d_D_run_32 ?_
  refine zcut (X := Int32) (G := fun v9 H locs ls => v9 = (if (u_5.1 10) < (0 : Int32) then (0 : Int32) else (1 : Int32)) ∧ va_P D vwCl (wD h c u_5) H ∧ va_D A (wD h c u_5) ∧ va_S A s.heap H locs ∧ lv_has ls 3 [(0, .ref (h 20)), (1, .int p0)]) (fr := fun v9 ls => F0 m 43 ls [.int v9, .ref (h 20)]) (fun J_8 => ?_) (fun v9 H locs ls hG => ?_)
  · refine lv_if_lt (tgt := 42) hx hb d_D_run_35 (by decide) (fun c_9 => ?_) (fun c_9 => ?_)
    · refine lv_iconst (v := (0 : Int32)) hx hb d_D_run_42 (by decide) ?_
      exact J_8 (0 : Int32) _ _ _ ⟨by simp only [if_pos c_9], hP, hD, hS, hl⟩
    refine lv_iconst (v := (1 : Int32)) hx hb d_D_run_38 (by decide) ?_
    refine lv_goto (tgt := 43) hx hb d_D_run_39 (by decide) ?_
    exact J_8 (1 : Int32) _ _ _ ⟨by simp only [if_neg c_9], hP, hD, hS, hl⟩
  obtain ⟨x_7, rfl⟩ : ∃ z, z = v9 := ⟨_, rfl⟩
  obtain ⟨ex_7, hP, hD, hS, hl⟩ := hG
  have zbx_7 : zB x_7 := by rw [ex_7]; repeat' first | with_reducible exact zB0 | with_reducible exact zB1 | with_reducible assumption | with_reducible refine zB_ite ?_ ?_
  refine lv_iconst (v := (2 : Int32)) hx hb d_D_run_43 (by decide) ?_
  refine zc_i (w2 := fun u9 => wD h c u9) (va_runV (As := [.int x_7, .int (2 : Int32)]) (rest := []) ⟨hx, hb, hml, hown, ht⟩ (mt_D_fails l D h c H.size u_5 x_7 (2 : Int32)) (cwV 2 ht (zgV zw_964 zw_966 zs_53 zw_7 zw_967) rfl rfl rfl kd_D_fails ⟨Nat.le_of_ble_eq_true rfl, Nat.le_of_ble_eq_true rfl⟩) ⟨zw_blind zw_tt, va_recv (hK.sub (tys' := [(c 21, .long), (c 22, .int), (c 23, .int), (c 24, .int), (c 25, .int), (c 26, .int), (c 27, .int), (c 28, .int)]) [0, 1, 2, 3, 4, 5, 6, 7] rfl) (hP.sub (ws' := wD h c u_5) [0, 1, 2, 3, 4, 5, 6, 7, 8] rfl) (ci := 6) (q0 := 0) rfl rfl, zw_go (hP.sub (ws' := wD h c u_5) [0, 1, 2, 3, 4, 5, 6, 7, 8] rfl) (hD.sub (ws' := wD h c u_5) [0, 1, 2, 3, 4, 5, 6, 7, 8] (by decide) rfl) (hK.sub (tys' := [(c 21, .long), (c 22, .int), (c 23, .int), (c 24, .int), (c 25, .int), (c 26, .int), (c 27, .int), (c 28, .int)]) [0, 1, 2, 3, 4, 5, 6, 7] rfl) (fun _ _ _ => trivial)⟩ rfl rfl hl.1 rfl (lv_room (Nat.le_of_ble_eq_true rfl)) d_D_run_44 ⟨Nat.le_of_ble_eq_true rfl, Nat.le_of_ble_eq_true rfl⟩) hP hD hS hA [0, 1, 2, 3, 4, 5, 6, 7, 8] [] [0, 1, 2, 3, 4, 5, 6, 7, 8] rfl rfl (by decide) (by decide) (by decide) (fun _ => rfl) (fun r_10 u_10 H locs hw hP hD hS => ?_)
  obtain ⟨er_10, eu_10⟩ := hw
  have ok_10 : okV u_10 := by rw [eu_10]; exact (ov_fails ok_5)
  refine lv_if_eq (tgt := 52) hx hb d_D_run_47 (by decide) (fun c_11 => ?_) (fun c_11 => ?_)
  · refine lv_iconst (v := (0 : Int32)) hx hb d_D_run_52 (by decide) ?_
    refine lv_istore_n (lv' := [(2, .int (0 : Int32)), (0, .ref (h 20)), (1, .int p0)]) hx hb d_D_run_53 rfl hl (by decide) rfl (fun ls hl => ?_)
    refine zloop (X := Nat × SD) (G := fun n9 v9 H locs ls => m_run st p0 = fl_D_run_54 st p0 n9 v9.1 v9.2 ∧ (v9.1 + n9 = 202 ∧ v9.1 ≤ 200 ∧ okV v9.2) ∧ va_P D vwCl (wD h c v9.2) H ∧ va_D A (wD h c v9.2) ∧ va_S A s.heap H locs ∧ lv_has ls 3 [(0, .ref (h 20)), (1, .int p0), (2, .int (nI v9.1))]) (fr := fun v9 ls => F0 m 54 ls []) (n := 202) (v := (0, u_10)) (fun n9 ih v9 H locs ls hG => ?_) (fun v9 H locs ls hG => ?_) ⟨(by simp only [m_run, ← er_1, ← ex_2, ← er_5, ← eu_5, ← ex_7, ← er_10, ← eu_10, if_pos c_6, if_pos c_11]), ⟨rfl, by dsimp only; omega, ok_10⟩, hP, hD, hS, (lv_sub hl [1, 2, 0] rfl)⟩
    · obtain ⟨i_12, u_13⟩ := v9
      obtain ⟨hF_14, hI, hP, hD, hS, hl⟩ := hG
      dsimp only at hF_14 hI hP hD hl
      refine lv_iload_n hx hb d_D_run_54 rfl (lv_at hl 2 rfl) ?_
      refine lv_iload_n hx hb d_D_run_55 rfl (lv_at hl 1 rfl) ?_
      refine lv_icmp_ge (tgt := 76) hx hb d_D_run_56 (by decide) (fun c_15 => ?_) (fun c_15 => ?_)
      · refine lv_iload_n hx hb d_D_run_76 rfl (lv_at hl 2 rfl) ?_
        exact zl_i (u := u_13) hx hb hr hlocks hS hP hD (⟨by rw [hF_14]; simp only [fl_D_run_54, if_pos c_15], by rw [hF_14]; simp only [fl_D_run_54, if_pos c_15]⟩) d_D_run_77
      refine lv_aload_n hx hb d_D_run_59 rfl (lv_at hl 0 rfl) ?_
      refine va_get (D := D) (ci := 6) (v := .int (u_13.1 10)) (C := "WindowMachineModel") (T := T_D) (N := 31) hx hb ht zi_D hown hK hP 0 rfl rfl 18 (by decide) (ht _ zw_872) (fun _ h9 => h9) rfl d_D_run_60 ?_
      refine lv_if_ge (tgt := 76) hx hb d_D_run_63 (by decide) (fun c_16 => ?_) (fun c_16 => ?_)
      · refine lv_iload_n hx hb d_D_run_76 rfl (lv_at hl 2 rfl) ?_
        exact zl_i (u := u_13) hx hb hr hlocks hS hP hD (⟨by rw [hF_14]; simp only [fl_D_run_54, if_neg c_15, if_pos c_16], by rw [hF_14]; simp only [fl_D_run_54, if_neg c_15, if_pos c_16]⟩) d_D_run_77
      refine lv_aload_n hx hb d_D_run_66 rfl (lv_at hl 0 rfl) ?_
      refine zc_v (w2 := fun u9 => wD h c u9) (va_runV (As := []) (rest := []) ⟨hx, hb, hml, hown, ht⟩ (mt_D_step l D h c H.size u_13 hI.2.2) (cwV 0 ht (zgV zw_1003 zw_1005 zs_58 zw_7 zw_1006) rfl rfl rfl kd_D_step ⟨Nat.le_of_ble_eq_true rfl, Nat.le_of_ble_eq_true rfl⟩) ⟨zw_blind zw_tt, va_recv (hK.sub (tys' := [(c 21, .long), (c 22, .int), (c 23, .int), (c 24, .int), (c 25, .int), (c 26, .int), (c 27, .int), (c 28, .int)]) [0, 1, 2, 3, 4, 5, 6, 7] rfl) (hP.sub (ws' := wD h c u_13) [0, 1, 2, 3, 4, 5, 6, 7, 8] rfl) (ci := 6) (q0 := 0) rfl rfl, zw_go (hP.sub (ws' := wD h c u_13) [0, 1, 2, 3, 4, 5, 6, 7, 8] rfl) (hD.sub (ws' := wD h c u_13) [0, 1, 2, 3, 4, 5, 6, 7, 8] (by decide) rfl) (hK.sub (tys' := [(c 21, .long), (c 22, .int), (c 23, .int), (c 24, .int), (c 25, .int), (c 26, .int), (c 27, .int), (c 28, .int)]) [0, 1, 2, 3, 4, 5, 6, 7] rfl) (fun _ _ _ => trivial)⟩ rfl rfl hl.1 rfl (lv_room (Nat.le_of_ble_eq_true rfl)) d_D_run_67 ⟨Nat.le_of_ble_eq_true rfl, Nat.le_of_ble_eq_true rfl⟩) hP hD hS hA [0, 1, 2, 3, 4, 5, 6, 7, 8] [] [0, 1, 2, 3, 4, 5, 6, 7, 8] rfl rfl (by decide) (by decide) (by decide) (fun _ => rfl) (fun u_17 H locs hw hP hD hS => ?_)
      have eu_17 := hw
      have ok_17 : okV u_17 := by rw [eu_17]; exact (ov_step hI.2.2)
      refine lv_iinc (v := (nI i_12) + (1 : Int32)) (lv' := [(2, .int ((nI i_12) + (1 : Int32))), (0, .ref (h 20)), (1, .int p0)]) hx hb d_D_run_70 hl (k := 2) rfl rfl (by decide) rfl (fun ls hl => ?_)
      refine lv_goto (tgt := 54) hx hb d_D_run_73 (by decide) ?_
      have hl : lv_has ls 3 [(0, .ref (h 20)), (1, .int p0), (2, .int (nI (i_12 + 1)))] := by rw [← nI_1 i_12]; exact (lv_sub hl [1, 2, 0] rfl)
      exact ih (i_12 + 1, u_17) _ _ _ ⟨by rw [hF_14]; simp only [fl_D_run_54, ← eu_17, if_neg c_15, if_neg c_16], ⟨by omega, rn_k (by omega) (rn_p er_1 ex_2 er_5 c_6) c_15, ok_17⟩, hP, hD, hS, hl⟩
    · obtain ⟨i_12, u_13⟩ := v9
      obtain ⟨-, hI, -⟩ := hG
      dsimp only at hI
      exact (by omega)
  refine lv_iconst (v := (0 : Int32)) hx hb d_D_run_50 (by decide) ?_
  exact zl_i (u := u_10) hx hb hr hlocks hS hP hD (⟨by simp only [m_run, ← er_1, ← ex_2, ← er_5, ← eu_5, ← ex_7, ← er_10, ← eu_10, if_pos c_6, if_neg c_11], by simp only [m_run, ← er_1, ← ex_2, ← er_5, ← eu_5, ← ex_7, ← er_10, ← eu_10, if_pos c_6, if_neg c_11]⟩) d_D_run_51
