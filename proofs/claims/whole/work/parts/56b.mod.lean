theorem d_D_number_0 : decode c_D_number 0 = .ok (.aload_n 0, 1) := by decide +kernel
theorem d_D_number_1 : decode c_D_number 1 = .ok (.getfield 413, 3) := by decide +kernel
theorem d_D_number_4 : decode c_D_number 4 = .ok (.istore 5, 2) := by decide +kernel
theorem d_D_number_6 : decode c_D_number 6 = .ok (.iconst 0, 1) := by decide +kernel
theorem d_D_number_7 : decode c_D_number 7 = .ok (.istore 6, 2) := by decide +kernel
theorem d_D_number_9 : decode c_D_number 9 = .ok (.aload_n 0, 1) := by decide +kernel
theorem d_D_number_10 : decode c_D_number 10 = .ok (.invokevirtual 416, 3) := by decide +kernel
theorem d_D_number_13 : decode c_D_number 13 = .ok (.bipush 45, 2) := by decide +kernel
theorem d_D_number_15 : decode c_D_number 15 = .ok (.if_icmp .ne 7, 3) := by decide +kernel
theorem d_D_number_18 : decode c_D_number 18 = .ok (.iconst 1, 1) := by decide +kernel
theorem d_D_number_19 : decode c_D_number 19 = .ok (.goto 4, 3) := by decide +kernel
theorem d_D_number_22 : decode c_D_number 22 = .ok (.iconst 0, 1) := by decide +kernel
theorem d_D_number_23 : decode c_D_number 23 = .ok (.istore 7, 2) := by decide +kernel
theorem d_D_number_25 : decode c_D_number 25 = .ok (.lconst 0, 1) := by decide +kernel
theorem d_D_number_26 : decode c_D_number 26 = .ok (.lstore 8, 2) := by decide +kernel
theorem d_D_number_28 : decode c_D_number 28 = .ok (.iload 7, 2) := by decide +kernel
theorem d_D_number_30 : decode c_D_number 30 = .ok (.ifCond .eq 13, 3) := by decide +kernel
theorem d_D_number_33 : decode c_D_number 33 = .ok (.aload_n 0, 1) := by decide +kernel
theorem d_D_number_34 : decode c_D_number 34 = .ok (.dup, 1) := by decide +kernel
theorem d_D_number_35 : decode c_D_number 35 = .ok (.getfield 413, 3) := by decide +kernel
theorem d_D_number_38 : decode c_D_number 38 = .ok (.iconst 1, 1) := by decide +kernel
theorem d_D_number_39 : decode c_D_number 39 = .ok (.iadd, 1) := by decide +kernel
theorem d_D_number_40 : decode c_D_number 40 = .ok (.putfield 413, 3) := by decide +kernel
theorem d_D_number_43 : decode c_D_number 43 = .ok (.aload_n 0, 1) := by decide +kernel
theorem d_D_number_44 : decode c_D_number 44 = .ok (.invokevirtual 429, 3) := by decide +kernel
theorem d_D_number_47 : decode c_D_number 47 = .ok (.ifCond .eq 44, 3) := by decide +kernel
theorem d_D_number_50 : decode c_D_number 50 = .ok (.iload 6, 2) := by decide +kernel
theorem d_D_number_52 : decode c_D_number 52 = .ok (.bipush 9, 2) := by decide +kernel
theorem d_D_number_54 : decode c_D_number 54 = .ok (.if_icmp .ge 37, 3) := by decide +kernel
theorem d_D_number_57 : decode c_D_number 57 = .ok (.ldc2_w 433, 3) := by decide +kernel
theorem d_D_number_60 : decode c_D_number 60 = .ok (.lload 8, 2) := by decide +kernel
theorem d_D_number_62 : decode c_D_number 62 = .ok (.lmul, 1) := by decide +kernel
theorem d_D_number_63 : decode c_D_number 63 = .ok (.aload_n 0, 1) := by decide +kernel
theorem d_D_number_64 : decode c_D_number 64 = .ok (.invokevirtual 416, 3) := by decide +kernel
theorem d_D_number_67 : decode c_D_number 67 = .ok (.i2l, 1) := by decide +kernel
theorem d_D_number_68 : decode c_D_number 68 = .ok (.ladd, 1) := by decide +kernel
theorem d_D_number_69 : decode c_D_number 69 = .ok (.ldc2_w 419, 3) := by decide +kernel
theorem d_D_number_72 : decode c_D_number 72 = .ok (.lsub, 1) := by decide +kernel
theorem d_D_number_73 : decode c_D_number 73 = .ok (.lstore 8, 2) := by decide +kernel
theorem d_D_number_75 : decode c_D_number 75 = .ok (.iinc 6 1, 3) := by decide +kernel
theorem d_D_number_78 : decode c_D_number 78 = .ok (.aload_n 0, 1) := by decide +kernel
theorem d_D_number_79 : decode c_D_number 79 = .ok (.dup, 1) := by decide +kernel
theorem d_D_number_80 : decode c_D_number 80 = .ok (.getfield 413, 3) := by decide +kernel
theorem d_D_number_83 : decode c_D_number 83 = .ok (.iconst 1, 1) := by decide +kernel
theorem d_D_number_84 : decode c_D_number 84 = .ok (.iadd, 1) := by decide +kernel
theorem d_D_number_85 : decode c_D_number 85 = .ok (.putfield 413, 3) := by decide +kernel
theorem d_D_number_88 : decode c_D_number 88 = .ok (.goto (-45), 3) := by decide +kernel
theorem d_D_number_91 : decode c_D_number 91 = .ok (.iload 6, 2) := by decide +kernel
theorem d_D_number_93 : decode c_D_number 93 = .ok (.ifCond .ne 11, 3) := by decide +kernel
theorem d_D_number_96 : decode c_D_number 96 = .ok (.aload_n 0, 1) := by decide +kernel
theorem d_D_number_97 : decode c_D_number 97 = .ok (.aload_n 0, 1) := by decide +kernel
theorem d_D_number_98 : decode c_D_number 98 = .ok (.getfield 413, 3) := by decide +kernel
theorem d_D_number_101 : decode c_D_number 101 = .ok (.invokevirtual 423, 3) := by decide +kernel
theorem d_D_number_104 : decode c_D_number 104 = .ok (.iload 7, 2) := by decide +kernel
theorem d_D_number_106 : decode c_D_number 106 = .ok (.ifCond .eq 8, 3) := by decide +kernel
theorem d_D_number_109 : decode c_D_number 109 = .ok (.lload 8, 2) := by decide +kernel
theorem d_D_number_111 : decode c_D_number 111 = .ok (.lneg, 1) := by decide +kernel
theorem d_D_number_112 : decode c_D_number 112 = .ok (.lstore 8, 2) := by decide +kernel
theorem d_D_number_114 : decode c_D_number 114 = .ok (.lload 8, 2) := by decide +kernel
theorem d_D_number_116 : decode c_D_number 116 = .ok (.lload_n 1, 1) := by decide +kernel
theorem d_D_number_117 : decode c_D_number 117 = .ok (.lload_n 3, 1) := by decide +kernel
theorem d_D_number_118 : decode c_D_number 118 = .ok (.invokestatic 282, 3) := by decide +kernel
theorem d_D_number_121 : decode c_D_number 121 = .ok (.ifCond .ne 9, 3) := by decide +kernel
theorem d_D_number_124 : decode c_D_number 124 = .ok (.aload_n 0, 1) := by decide +kernel
theorem d_D_number_125 : decode c_D_number 125 = .ok (.iload 5, 2) := by decide +kernel
theorem d_D_number_127 : decode c_D_number 127 = .ok (.invokevirtual 423, 3) := by decide +kernel
theorem d_D_number_130 : decode c_D_number 130 = .ok (.lload 8, 2) := by decide +kernel
theorem d_D_number_132 : decode c_D_number 132 = .ok (.l2i, 1) := by decide +kernel
theorem d_D_number_133 : decode c_D_number 133 = .ok (.ireturn, 1) := by decide +kernel
theorem kd_D_number : (y_D_number).cls = "WindowMachineModel" ∧ (y_D_number).cls ≠ "java/lang/invoke/MethodHandle" ∧ (y_D_number).cls ≠ "java/lang/invoke/VarHandle" ∧ (parseMethodDescriptor (y_D_number).desc).map (fun d => d.parameters.length) = some 2 := by decide +kernel
def fg_D_number_91 (st : SD) (p0 : Int64) (p1 : Int64) : Nat → Int32 → Int64 → SD → Int32 × SD := fun i_8 x_9 x_10 u_11 => (let u_25 := (if (nI i_8) = (0 : Int32) then m_wrong u_11 (u_11.1 3) else u_11); (let x_29 := (if x_9 = (0 : Int32) then x_10 else -x_10); (let r_32 := m_in x_29 p0 p1; (let u_33 := (if r_32 = (0 : Int32) then m_wrong u_25 (st.1 3) else u_25); (x_29.toInt32, u_33)))))
def fl_D_number_43 (st : SD) (p0 : Int64) (p1 : Int64) : Nat → Nat → Int32 → Int64 → SD → Int32 × SD
  | 0, _, _, _, u_16 => (0, u_16)
  | n9 + 1, i_13, x_14, x_15, u_16 => (let r_18 := m_isDigit u_16; (if r_18 = (0 : Int32) then fg_D_number_91 st p0 p1 i_13 x_14 x_15 u_16 else (if (9 : Int32) ≤ (nI i_13) then fg_D_number_91 st p0 p1 i_13 x_14 x_15 u_16 else (let r_21 := m_here u_16; (let x_22 := (((10 : Int64) * x_15) + r_21.toInt64) - (48 : Int64); fl_D_number_43 st p0 p1 n9 (i_13 + 1) x_14 x_22 (upd u_16.1 3 ((u_16.1 3) + (1 : Int32)), u_16.2.1, u_16.2.2.1, u_16.2.2.2.1, u_16.2.2.2.2.1, u_16.2.2.2.2.2))))))
def m_number (st : SD) (p0 : Int64) (p1 : Int64) : Int32 × SD := (let r_1 := m_here st; (let x_2 := (if r_1 = (45 : Int32) then (1 : Int32) else (0 : Int32)); (let u_5 := (if x_2 = (0 : Int32) then st else (upd st.1 3 ((st.1 3) + (1 : Int32)), st.2.1, st.2.2.1, st.2.2.2.1, st.2.2.2.2.1, st.2.2.2.2.2)); fl_D_number_43 st p0 p1 12 0 x_2 (0 : Int64) u_5)))
set_option maxHeartbeats 4000000 in
set_option maxRecDepth 100000 in
theorem mt_D_number (l : Launch) (D : va_G) (h : Nat → Nat) (c : Nat → ClassId) (sz : Nat) (st : SD) (p0 : Int64) (p1 : Int64) (k9 : Nat) (hk : k9 < 1900) (hL : okL k9 st) : Met l y_D_number w_D_number ({ frames := 2, cells := 0, slots := 0, locals := 45 }) (va_Pc [.ref (h 20), .long p0, .long p1] (zw_pre D vwCl [(c 21, .long), (c 22, .int), (c 23, .int), (c 24, .int), (c 25, .int), (c 26, .int), (c 27, .int), (c 28, .int)] sz (wD h c st) (fun _ => True))) (va_Qi (fun r (u : SD) => r = (m_number st p0 p1).1 ∧ u = (m_number st p0 p1).2) (fun u t => zw_at D vwCl (va_A (wD h c st) sz) ((fun (u : SD) => wD h c u) u) t) (va_A (wD h c st) sz)) 0 0 (va_A (wD h c st) sz) := by
  refine zm (Qf := fun A => va_Qi (fun r (u : SD) => r = (m_number st p0 p1).1 ∧ u = (m_number st p0 p1).2) (fun u t => zw_at D vwCl A ((fun (u : SD) => wD h c u) u) t) A) (Zf := fun _ _ => True) (cc := c_D_number) (nL := 10) (ret := (some .int)) (by decide) rfl (Nat.le_of_ble_eq_true rfl) ?_
  intro p e s m below meth c9 A H locs ls hx hb hml hown hts hr hlocks hA hK hP hD hS hZ hl
  have hl : lv_has ls 10 [(0, .ref (h 20)), (1, .long p0), (3, .long p1)] := hl
  have ht : ∀ w9 ∈ zT, w9.before _ s = true := fun w9 h9 => hts w9 (List.mem_cons_of_mem _ h9)
  refine lv_aload_n hx hb d_D_number_0 rfl (lv_at hl 0 rfl) ?_
  refine va_get (D := D) (ci := 6) (v := .int (st.1 3)) (C := "WindowMachineModel") (T := T_D) (N := 31) hx hb ht zi_D hown hK hP 0 rfl rfl 6 (by decide) (ht _ zw_860) (fun _ h9 => h9) rfl d_D_number_1 ?_
  refine lv_istore (lv' := [(5, .int (st.1 3)), (0, .ref (h 20)), (1, .long p0), (3, .long p1)]) hx hb d_D_number_4 hl (by decide) rfl (fun ls hl => ?_)
  refine lv_iconst (v := (0 : Int32)) hx hb d_D_number_6 (by decide) ?_
  refine lv_istore (lv' := [(6, .int (0 : Int32)), (5, .int (st.1 3)), (0, .ref (h 20)), (1, .long p0), (3, .long p1)]) hx hb d_D_number_7 hl (by decide) rfl (fun ls hl => ?_)
  refine lv_aload_n hx hb d_D_number_9 rfl (lv_at hl 2 rfl) ?_
  refine zc_i (w2 := fun _ => wD h c st) (va_runV (As := []) (rest := []) ⟨hx, hb, hml, hown, ht⟩ (mt_D_here l D h c H.size st (olh hL)) (cwV 0 ht (zgV zw_1122 zw_1124 zs_77 zw_7 zw_1125) rfl rfl rfl kd_D_here ⟨Nat.le_of_ble_eq_true rfl, Nat.le_of_ble_eq_true rfl⟩) ⟨zw_blind zw_tt, va_recv (hK.sub (tys' := [(c 21, .long), (c 22, .int), (c 23, .int), (c 24, .int), (c 25, .int), (c 26, .int), (c 27, .int), (c 28, .int)]) [0, 1, 2, 3, 4, 5, 6, 7] rfl) (hP.sub (ws' := wD h c st) [0, 1, 2, 3, 4, 5, 6, 7, 8] rfl) (ci := 6) (q0 := 0) rfl rfl, zw_go (hP.sub (ws' := wD h c st) [0, 1, 2, 3, 4, 5, 6, 7, 8] rfl) (hD.sub (ws' := wD h c st) [0, 1, 2, 3, 4, 5, 6, 7, 8] (by decide) rfl) (hK.sub (tys' := [(c 21, .long), (c 22, .int), (c 23, .int), (c 24, .int), (c 25, .int), (c 26, .int), (c 27, .int), (c 28, .int)]) [0, 1, 2, 3, 4, 5, 6, 7] rfl) (fun _ _ _ => trivial)⟩ rfl rfl hl.1 rfl (lv_room (Nat.le_of_ble_eq_true rfl)) d_D_number_10 ⟨Nat.le_of_ble_eq_true rfl, Nat.le_of_ble_eq_true rfl⟩) hP hD hS hA [0, 1, 2, 3, 4, 5, 6, 7, 8] [] [0, 1, 2, 3, 4, 5, 6, 7, 8] rfl rfl (by decide) (by decide) (by decide) (fun _ => rfl) (fun r_1 _ H locs hw hP hD hS => ?_)
  have er_1 := hw
  refine lv_bipush (v := (45 : Int32)) hx hb d_D_number_13 (by decide) ?_
  refine zcut (X := Int32) (G := fun v9 H locs ls => v9 = (if r_1 = (45 : Int32) then (1 : Int32) else (0 : Int32)) ∧ va_P D vwCl (wD h c st) H ∧ va_D A (wD h c st) ∧ va_S A s.heap H locs ∧ lv_has ls 10 [(0, .ref (h 20)), (1, .long p0), (3, .long p1), (5, .int (st.1 3)), (6, .int (0 : Int32))]) (fr := fun v9 ls => F0 m 23 ls [.int v9]) (fun J_3 => ?_) (fun v9 H locs ls hG => ?_)
  · refine lv_icmp_ne (tgt := 22) hx hb d_D_number_15 (by decide) (fun c_4 => ?_) (fun c_4 => ?_)
    · refine lv_iconst (v := (0 : Int32)) hx hb d_D_number_22 (by decide) ?_
      exact J_3 (0 : Int32) _ _ _ ⟨by simp only [if_neg c_4], hP, hD, hS, (lv_sub hl [2, 3, 4, 1, 0] rfl)⟩
    refine lv_iconst (v := (1 : Int32)) hx hb d_D_number_18 (by decide) ?_
    refine lv_goto (tgt := 23) hx hb d_D_number_19 (by decide) ?_
    exact J_3 (1 : Int32) _ _ _ ⟨by simp only [if_pos c_4], hP, hD, hS, (lv_sub hl [2, 3, 4, 1, 0] rfl)⟩
  obtain ⟨x_2, rfl⟩ : ∃ z, z = v9 := ⟨_, rfl⟩
  obtain ⟨ex_2, hP, hD, hS, hl⟩ := hG
  have zbx_2 : zB x_2 := by rw [ex_2]; repeat' first | with_reducible exact zB0 | with_reducible exact zB1 | with_reducible assumption | with_reducible refine zB_ite ?_ ?_
  refine lv_istore (lv' := [(7, .int x_2), (0, .ref (h 20)), (1, .long p0), (3, .long p1), (5, .int (st.1 3)), (6, .int (0 : Int32))]) hx hb d_D_number_23 hl (by decide) rfl (fun ls hl => ?_)
  refine lv_lconst (v := (0 : Int64)) hx hb d_D_number_25 (by decide) ?_
  refine lv_lstore (lv' := [(8, .long (0 : Int64)), (7, .int x_2), (0, .ref (h 20)), (1, .long p0), (3, .long p1), (5, .int (st.1 3)), (6, .int (0 : Int32))]) hx hb d_D_number_26 hl (by decide) rfl (fun ls hl => ?_)
  refine lv_iload hx hb d_D_number_28 (lv_at hl 1 rfl) ?_
  refine zcut (X := SD) (G := fun v9 H locs ls => v9 = (if x_2 = (0 : Int32) then st else (upd st.1 3 ((st.1 3) + (1 : Int32)), st.2.1, st.2.2.1, st.2.2.2.1, st.2.2.2.2.1, st.2.2.2.2.2)) ∧ va_P D vwCl (wD h c v9) H ∧ va_D A (wD h c v9) ∧ va_S A s.heap H locs ∧ lv_has ls 10 [(0, .ref (h 20)), (1, .long p0), (3, .long p1), (5, .int (st.1 3)), (6, .int (0 : Int32)), (7, .int x_2), (8, .long (0 : Int64))]) (fr := fun v9 ls => F0 m 43 ls []) (fun J_6 => ?_) (fun v9 H locs ls hG => ?_)
  · refine lv_if_eq (tgt := 43) hx hb d_D_number_30 (by decide) (fun c_7 => ?_) (fun c_7 => ?_)
    · exact J_6 st _ _ _ ⟨by simp only [if_pos c_7], hP, hD, hS, (lv_sub hl [2, 3, 4, 5, 6, 1, 0] rfl)⟩
    refine lv_aload_n hx hb d_D_number_33 rfl (lv_at hl 2 rfl) ?_
    refine lv_dup hx hb d_D_number_34 rfl ?_
    refine va_get (D := D) (ci := 6) (v := .int (st.1 3)) (C := "WindowMachineModel") (T := T_D) (N := 31) hx hb ht zi_D hown hK hP 0 rfl rfl 6 (by decide) (ht _ zw_860) (fun _ h9 => h9) rfl d_D_number_35 ?_
    refine lv_iconst (v := (1 : Int32)) hx hb d_D_number_38 (by decide) ?_
    refine lv_iadd hx hb d_D_number_39 ?_
    refine va_put (D := D) (ci := 6) (v := .int ((st.1 3) + (1 : Int32))) (ty := .int) (C := "WindowMachineModel") (T := T_D) (N := 31) hx hb ht zi_D ty_D tyok_D nm_D hown hK hP hD hS 0 rfl rfl 6 (by decide) (ht _ zw_860) (fun _ h9 => h9) rfl (by decide +kernel) rfl rfl (Nat.le_of_ble_eq_true rfl) d_D_number_40 (fun H locs hP hD hS => ?_)
    have hP : va_P D vwCl (wD h c (upd st.1 3 ((st.1 3) + (1 : Int32)), st.2.1, st.2.2.1, st.2.2.2.1, st.2.2.2.2.1, st.2.2.2.2.2)) H := hP
    have hD : va_D A (wD h c (upd st.1 3 ((st.1 3) + (1 : Int32)), st.2.1, st.2.2.1, st.2.2.2.1, st.2.2.2.2.1, st.2.2.2.2.2)) := hD
    exact J_6 (upd st.1 3 ((st.1 3) + (1 : Int32)), st.2.1, st.2.2.1, st.2.2.2.1, st.2.2.2.2.1, st.2.2.2.2.2) _ _ _ ⟨by simp only [if_neg c_7], hP, hD, hS, (lv_sub hl [2, 3, 4, 5, 6, 1, 0] rfl)⟩
  obtain ⟨u_5, rfl⟩ : ∃ z, z = v9 := ⟨_, rfl⟩
  obtain ⟨eu_5, hP, hD, hS, hl⟩ := hG
  have ok_5 : okL (k9 + 1) u_5 := by rw [eu_5]; exact (okL_iteD (fun c_5 => (ol_mono hL (by omega))) (fun c_5 => (ol_inc (by omega) hL)))
  refine zcut (X := Nat × Int32 × Int64 × SD) (G := fun v9 H locs ls => m_number st p0 p1 = fg_D_number_91 st p0 p1 v9.1 v9.2.1 v9.2.2.1 v9.2.2.2 ∧ (okL (k9 + 12) v9.2.2.2) ∧ va_P D vwCl (wD h c v9.2.2.2) H ∧ va_D A (wD h c v9.2.2.2) ∧ va_S A s.heap H locs ∧ lv_has ls 10 [(0, .ref (h 20)), (1, .long p0), (3, .long p1), (5, .int (st.1 3)), (6, .int (nI v9.1)), (7, .int v9.2.1), (8, .long v9.2.2.1)]) (fr := fun v9 ls => F0 m 91 ls []) (fun J_12 => ?_) (fun v9 H locs ls hG => ?_)
  · refine zloop (X := Nat × Int32 × Int64 × SD) (G := fun n9 v9 H locs ls => m_number st p0 p1 = fl_D_number_43 st p0 p1 n9 v9.1 v9.2.1 v9.2.2.1 v9.2.2.2 ∧ (v9.1 + n9 = 12 ∧ v9.1 ≤ 9 ∧ okL (k9 + 1 + v9.1) v9.2.2.2) ∧ va_P D vwCl (wD h c v9.2.2.2) H ∧ va_D A (wD h c v9.2.2.2) ∧ va_S A s.heap H locs ∧ lv_has ls 10 [(0, .ref (h 20)), (1, .long p0), (3, .long p1), (5, .int (st.1 3)), (6, .int (nI v9.1)), (7, .int v9.2.1), (8, .long v9.2.2.1)]) (fr := fun v9 ls => F0 m 43 ls []) (n := 12) (v := (0, x_2, (0 : Int64), u_5)) (fun n9 ih v9 H locs ls hG => ?_) (fun v9 H locs ls hG => ?_) ⟨(by simp only [m_number, ← er_1, ← ex_2, ← eu_5]), ⟨rfl, by dsimp only; omega, ok_5⟩, hP, hD, hS, hl⟩
    · obtain ⟨i_13, x_14, x_15, u_16⟩ := v9
      obtain ⟨hF_17, hI, hP, hD, hS, hl⟩ := hG
      dsimp only at hF_17 hI hP hD hl
      refine lv_aload_n hx hb d_D_number_43 rfl (lv_at hl 0 rfl) ?_
      refine zc_i (w2 := fun _ => wD h c u_16) (va_runV (As := []) (rest := []) ⟨hx, hb, hml, hown, ht⟩ (mt_D_isDigit l D h c H.size u_16 (olh hI.2.2)) (cwV 0 ht (zgV zw_1131 zw_1133 zs_79 zw_7 zw_1134) rfl rfl rfl kd_D_isDigit ⟨Nat.le_of_ble_eq_true rfl, Nat.le_of_ble_eq_true rfl⟩) ⟨zw_blind zw_tt, va_recv (hK.sub (tys' := [(c 21, .long), (c 22, .int), (c 23, .int), (c 24, .int), (c 25, .int), (c 26, .int), (c 27, .int), (c 28, .int)]) [0, 1, 2, 3, 4, 5, 6, 7] rfl) (hP.sub (ws' := wD h c u_16) [0, 1, 2, 3, 4, 5, 6, 7, 8] rfl) (ci := 6) (q0 := 0) rfl rfl, zw_go (hP.sub (ws' := wD h c u_16) [0, 1, 2, 3, 4, 5, 6, 7, 8] rfl) (hD.sub (ws' := wD h c u_16) [0, 1, 2, 3, 4, 5, 6, 7, 8] (by decide) rfl) (hK.sub (tys' := [(c 21, .long), (c 22, .int), (c 23, .int), (c 24, .int), (c 25, .int), (c 26, .int), (c 27, .int), (c 28, .int)]) [0, 1, 2, 3, 4, 5, 6, 7] rfl) (fun _ _ _ => trivial)⟩ rfl rfl hl.1 rfl (lv_room (Nat.le_of_ble_eq_true rfl)) d_D_number_44 ⟨Nat.le_of_ble_eq_true rfl, Nat.le_of_ble_eq_true rfl⟩) hP hD hS hA [0, 1, 2, 3, 4, 5, 6, 7, 8] [] [0, 1, 2, 3, 4, 5, 6, 7, 8] rfl rfl (by decide) (by decide) (by decide) (fun _ => rfl) (fun r_18 _ H locs hw hP hD hS => ?_)
      have er_18 := hw
      refine lv_if_eq (tgt := 91) hx hb d_D_number_47 (by decide) (fun c_19 => ?_) (fun c_19 => ?_)
      · exact J_12 (i_13, x_14, x_15, u_16) _ _ _ ⟨by rw [hF_17]; simp only [fl_D_number_43, ← er_18, if_pos c_19], (ol_mono hI.2.2 (by omega)), hP, hD, hS, hl⟩
      refine lv_iload hx hb d_D_number_50 (lv_at hl 4 rfl) ?_
      refine lv_bipush (v := (9 : Int32)) hx hb d_D_number_52 (by decide) ?_
      refine lv_icmp_ge (tgt := 91) hx hb d_D_number_54 (by decide) (fun c_20 => ?_) (fun c_20 => ?_)
      · exact J_12 (i_13, x_14, x_15, u_16) _ _ _ ⟨by rw [hF_17]; simp only [fl_D_number_43, ← er_18, if_neg c_19, if_pos c_20], (ol_mono hI.2.2 (by omega)), hP, hD, hS, hl⟩
      refine lv_ldc2 (v := (10 : Int64)) hx hb hown (ht _ zw_1137) d_D_number_57 ?_
      refine lv_lload hx hb d_D_number_60 (lv_at hl 6 rfl) ?_
      refine lv_lmul hx hb d_D_number_62 ?_
      refine lv_aload_n hx hb d_D_number_63 rfl (lv_at hl 0 rfl) ?_
      refine zc_i (w2 := fun _ => wD h c u_16) (va_runV (As := []) (rest := [.long ((10 : Int64) * x_15)]) ⟨hx, hb, hml, hown, ht⟩ (mt_D_here l D h c H.size u_16 (olh hI.2.2)) (cwV 0 ht (zgV zw_1122 zw_1124 zs_77 zw_7 zw_1125) rfl rfl rfl kd_D_here ⟨Nat.le_of_ble_eq_true rfl, Nat.le_of_ble_eq_true rfl⟩) ⟨zw_blind zw_tt, va_recv (hK.sub (tys' := [(c 21, .long), (c 22, .int), (c 23, .int), (c 24, .int), (c 25, .int), (c 26, .int), (c 27, .int), (c 28, .int)]) [0, 1, 2, 3, 4, 5, 6, 7] rfl) (hP.sub (ws' := wD h c u_16) [0, 1, 2, 3, 4, 5, 6, 7, 8] rfl) (ci := 6) (q0 := 0) rfl rfl, zw_go (hP.sub (ws' := wD h c u_16) [0, 1, 2, 3, 4, 5, 6, 7, 8] rfl) (hD.sub (ws' := wD h c u_16) [0, 1, 2, 3, 4, 5, 6, 7, 8] (by decide) rfl) (hK.sub (tys' := [(c 21, .long), (c 22, .int), (c 23, .int), (c 24, .int), (c 25, .int), (c 26, .int), (c 27, .int), (c 28, .int)]) [0, 1, 2, 3, 4, 5, 6, 7] rfl) (fun _ _ _ => trivial)⟩ rfl rfl hl.1 rfl (lv_room (Nat.le_of_ble_eq_true rfl)) d_D_number_64 ⟨Nat.le_of_ble_eq_true rfl, Nat.le_of_ble_eq_true rfl⟩) hP hD hS hA [0, 1, 2, 3, 4, 5, 6, 7, 8] [] [0, 1, 2, 3, 4, 5, 6, 7, 8] rfl rfl (by decide) (by decide) (by decide) (fun _ => rfl) (fun r_21 _ H locs hw hP hD hS => ?_)
      have er_21 := hw
      refine lv_i2l (v := r_21.toInt64) hx hb d_D_number_67 rfl ?_
      refine lv_ladd hx hb d_D_number_68 ?_
      refine lv_ldc2 (v := (48 : Int64)) hx hb hown (ht _ zw_1135) d_D_number_69 ?_
      refine lv_lsub hx hb d_D_number_72 ?_
      refine lv_topl (fun x_22 ex_22 => ?_)
      refine lv_lstore (lv' := [(8, .long x_22), (0, .ref (h 20)), (1, .long p0), (3, .long p1), (5, .int (st.1 3)), (6, .int (nI i_13)), (7, .int x_14)]) hx hb d_D_number_73 hl (by decide) rfl (fun ls hl => ?_)
      refine lv_iinc (v := (nI i_13) + (1 : Int32)) (lv' := [(6, .int ((nI i_13) + (1 : Int32))), (8, .long x_22), (0, .ref (h 20)), (1, .long p0), (3, .long p1), (5, .int (st.1 3)), (7, .int x_14)]) hx hb d_D_number_75 hl (k := 5) rfl rfl (by decide) rfl (fun ls hl => ?_)
      refine lv_aload_n hx hb d_D_number_78 rfl (lv_at hl 2 rfl) ?_
      refine lv_dup hx hb d_D_number_79 rfl ?_
      refine va_get (D := D) (ci := 6) (v := .int (u_16.1 3)) (C := "WindowMachineModel") (T := T_D) (N := 31) hx hb ht zi_D hown hK hP 0 rfl rfl 6 (by decide) (ht _ zw_860) (fun _ h9 => h9) rfl d_D_number_80 ?_
      refine lv_iconst (v := (1 : Int32)) hx hb d_D_number_83 (by decide) ?_
      refine lv_iadd hx hb d_D_number_84 ?_
      refine va_put (D := D) (ci := 6) (v := .int ((u_16.1 3) + (1 : Int32))) (ty := .int) (C := "WindowMachineModel") (T := T_D) (N := 31) hx hb ht zi_D ty_D tyok_D nm_D hown hK hP hD hS 0 rfl rfl 6 (by decide) (ht _ zw_860) (fun _ h9 => h9) rfl (by decide +kernel) rfl rfl (Nat.le_of_ble_eq_true rfl) d_D_number_85 (fun H locs hP hD hS => ?_)
      have hP : va_P D vwCl (wD h c (upd u_16.1 3 ((u_16.1 3) + (1 : Int32)), u_16.2.1, u_16.2.2.1, u_16.2.2.2.1, u_16.2.2.2.2.1, u_16.2.2.2.2.2)) H := hP
      have hD : va_D A (wD h c (upd u_16.1 3 ((u_16.1 3) + (1 : Int32)), u_16.2.1, u_16.2.2.1, u_16.2.2.2.1, u_16.2.2.2.2.1, u_16.2.2.2.2.2)) := hD
      refine lv_goto (tgt := 43) hx hb d_D_number_88 (by decide) ?_
      have hl : lv_has ls 10 [(0, .ref (h 20)), (1, .long p0), (3, .long p1), (5, .int (st.1 3)), (6, .int (nI (i_13 + 1))), (7, .int x_14), (8, .long x_22)] := by rw [← nI_1 i_13]; exact (lv_sub hl [2, 3, 4, 5, 0, 6, 1] rfl)
      exact ih (i_13 + 1, x_14, x_22, (upd u_16.1 3 ((u_16.1 3) + (1 : Int32)), u_16.2.1, u_16.2.2.1, u_16.2.2.2.1, u_16.2.2.2.2.1, u_16.2.2.2.2.2)) _ _ _ ⟨by rw [hF_17]; simp only [fl_D_number_43, ← er_18, ← er_21, ← ex_22, if_neg c_19, if_neg c_20], ⟨by dsimp only; omega, znlt (N := 9) (by omega) c_20, ol_inc (k := k9 + 1 + i_13) (by omega) hI.2.2⟩, hP, hD, hS, hl⟩
    · obtain ⟨i_13, x_14, x_15, u_16⟩ := v9
      obtain ⟨-, hI, -⟩ := hG
      dsimp only at hI
      exact (by omega)
  obtain ⟨i_8, x_9, x_10, u_11⟩ := v9
  obtain ⟨hF_23, hI_24, hP, hD, hS, hl⟩ := hG
  dsimp only at hF_23 hI_24 hP hD hl
  refine lv_iload hx hb d_D_number_91 (lv_at hl 4 rfl) ?_
  refine zcut (X := SD) (G := fun v9 H locs ls => v9 = (if (nI i_8) = (0 : Int32) then m_wrong u_11 (u_11.1 3) else u_11) ∧ va_P D vwCl (wD h c v9) H ∧ va_D A (wD h c v9) ∧ va_S A s.heap H locs ∧ lv_has ls 10 [(0, .ref (h 20)), (1, .long p0), (3, .long p1), (5, .int (st.1 3)), (6, .int (nI i_8)), (7, .int x_9), (8, .long x_10)]) (fr := fun v9 ls => F0 m 104 ls []) (fun J_26 => ?_) (fun v9 H locs ls hG => ?_)
  · refine lv_if_ne (tgt := 104) hx hb d_D_number_93 (by decide) (fun c_27 => ?_) (fun c_27 => ?_)
    · exact J_26 u_11 _ _ _ ⟨by simp only [if_neg c_27], hP, hD, hS, hl⟩
    refine lv_aload_n hx hb d_D_number_96 rfl (lv_at hl 0 rfl) ?_
    refine lv_aload_n hx hb d_D_number_97 rfl (lv_at hl 0 rfl) ?_
    refine va_get (D := D) (ci := 6) (v := .int (u_11.1 3)) (C := "WindowMachineModel") (T := T_D) (N := 31) hx hb ht zi_D hown hK hP 0 rfl rfl 6 (by decide) (ht _ zw_860) (fun _ h9 => h9) rfl d_D_number_98 ?_
    refine zc_v (w2 := fun u9 => wD h c u9) (va_runV (As := [.int (u_11.1 3)]) (rest := []) ⟨hx, hb, hml, hown, ht⟩ (mt_D_wrong l D h c H.size u_11 (u_11.1 3)) (cwV 1 ht (zgV zw_1114 zw_1116 zs_75 zw_7 zw_1117) rfl rfl rfl kd_D_wrong ⟨Nat.le_of_ble_eq_true rfl, Nat.le_of_ble_eq_true rfl⟩) ⟨zw_blind zw_tt, va_recv (hK.sub (tys' := [(c 21, .long), (c 22, .int), (c 23, .int), (c 24, .int), (c 25, .int), (c 26, .int), (c 27, .int), (c 28, .int)]) [0, 1, 2, 3, 4, 5, 6, 7] rfl) (hP.sub (ws' := wD h c u_11) [0, 1, 2, 3, 4, 5, 6, 7, 8] rfl) (ci := 6) (q0 := 0) rfl rfl, zw_go (hP.sub (ws' := wD h c u_11) [0, 1, 2, 3, 4, 5, 6, 7, 8] rfl) (hD.sub (ws' := wD h c u_11) [0, 1, 2, 3, 4, 5, 6, 7, 8] (by decide) rfl) (hK.sub (tys' := [(c 21, .long), (c 22, .int), (c 23, .int), (c 24, .int), (c 25, .int), (c 26, .int), (c 27, .int), (c 28, .int)]) [0, 1, 2, 3, 4, 5, 6, 7] rfl) (fun _ _ _ => trivial)⟩ rfl rfl hl.1 rfl (lv_room (Nat.le_of_ble_eq_true rfl)) d_D_number_101 ⟨Nat.le_of_ble_eq_true rfl, Nat.le_of_ble_eq_true rfl⟩) hP hD hS hA [0, 1, 2, 3, 4, 5, 6, 7, 8] [] [0, 1, 2, 3, 4, 5, 6, 7, 8] rfl rfl (by decide) (by decide) (by decide) (fun _ => rfl) (fun u_28 H locs hw hP hD hS => ?_)
    subst hw
    exact J_26 (m_wrong u_11 (u_11.1 3)) _ _ _ ⟨by simp only [if_pos c_27], hP, hD, hS, hl⟩
  obtain ⟨u_25, rfl⟩ : ∃ z, z = v9 := ⟨_, rfl⟩
  obtain ⟨eu_25, hP, hD, hS, hl⟩ := hG
  have ok_25 : okL (k9 + 12) u_25 := by rw [eu_25]; exact (okL_iteD (fun c_25 => (ol_wrong (by omega) hI_24)) (fun c_25 => hI_24))
  refine lv_iload hx hb d_D_number_104 (lv_at hl 5 rfl) ?_
  refine zcut (X := Int64) (G := fun v9 H locs ls => v9 = (if x_9 = (0 : Int32) then x_10 else -x_10) ∧ va_P D vwCl (wD h c u_25) H ∧ va_D A (wD h c u_25) ∧ va_S A s.heap H locs ∧ lv_has ls 10 [(0, .ref (h 20)), (1, .long p0), (3, .long p1), (5, .int (st.1 3)), (6, .int (nI i_8)), (7, .int x_9), (8, .long v9)]) (fr := fun v9 ls => F0 m 114 ls []) (fun J_30 => ?_) (fun v9 H locs ls hG => ?_)
  · refine lv_if_eq (tgt := 114) hx hb d_D_number_106 (by decide) (fun c_31 => ?_) (fun c_31 => ?_)
    · exact J_30 x_10 _ _ _ ⟨by simp only [if_pos c_31], hP, hD, hS, hl⟩
    refine lv_lload hx hb d_D_number_109 (lv_at hl 6 rfl) ?_
    refine lv_lneg hx hb d_D_number_111 ?_
    refine lv_lstore (lv' := [(8, .long (-x_10)), (0, .ref (h 20)), (1, .long p0), (3, .long p1), (5, .int (st.1 3)), (6, .int (nI i_8)), (7, .int x_9)]) hx hb d_D_number_112 hl (by decide) rfl (fun ls hl => ?_)
    exact J_30 (-x_10) _ _ _ ⟨by simp only [if_neg c_31], hP, hD, hS, (lv_sub hl [1, 2, 3, 4, 5, 6, 0] rfl)⟩
  obtain ⟨x_29, rfl⟩ : ∃ z, z = v9 := ⟨_, rfl⟩
  obtain ⟨ex_29, hP, hD, hS, hl⟩ := hG
  refine lv_lload hx hb d_D_number_114 (lv_at hl 6 rfl) ?_
  refine lv_lload_n hx hb d_D_number_116 rfl (lv_at hl 1 rfl) ?_
  refine lv_lload_n hx hb d_D_number_117 rfl (lv_at hl 2 rfl) ?_
  refine zc_i (w2 := fun _ => wD h c u_25) (va_runS (As := [.long x_29, .long p0, .long p1]) (rest := []) ⟨hx, hb, hml, hown, ht⟩ (mt_D_in l D H.size x_29 p0 p1) (cwS 3 ht (zgS zw_961 zw_962 zw_7 zw_963) rfl rfl rfl kd_D_in ⟨Nat.le_of_ble_eq_true rfl, Nat.le_of_ble_eq_true rfl⟩) ⟨zw_blind zw_tt, zw_go (hP.sub (ws' := []) [] rfl) (hD.sub (ws' := []) [] (by decide) rfl) (hK.sub (tys' := []) [] rfl) (fun _ _ _ => trivial)⟩ rfl rfl hl.1 rfl (lv_room (Nat.le_of_ble_eq_true rfl)) d_D_number_118 ⟨Nat.le_of_ble_eq_true rfl, Nat.le_of_ble_eq_true rfl⟩) hP hD hS hA [] [0, 1, 2, 3, 4, 5, 6, 7, 8] [0, 1, 2, 3, 4, 5, 6, 7, 8] rfl rfl (by decide) (by decide) (by decide) (fun _ => rfl) (fun r_32 _ H locs hw hP hD hS => ?_)
  have er_32 := hw
  refine zcut (X := SD) (G := fun v9 H locs ls => v9 = (if r_32 = (0 : Int32) then m_wrong u_25 (st.1 3) else u_25) ∧ va_P D vwCl (wD h c v9) H ∧ va_D A (wD h c v9) ∧ va_S A s.heap H locs ∧ lv_has ls 10 [(0, .ref (h 20)), (1, .long p0), (3, .long p1), (5, .int (st.1 3)), (6, .int (nI i_8)), (7, .int x_9), (8, .long x_29)]) (fr := fun v9 ls => F0 m 130 ls []) (fun J_34 => ?_) (fun v9 H locs ls hG => ?_)
  · refine lv_if_ne (tgt := 130) hx hb d_D_number_121 (by decide) (fun c_35 => ?_) (fun c_35 => ?_)
    · exact J_34 u_25 _ _ _ ⟨by simp only [if_neg c_35], hP, hD, hS, hl⟩
    refine lv_aload_n hx hb d_D_number_124 rfl (lv_at hl 0 rfl) ?_
    refine lv_iload hx hb d_D_number_125 (lv_at hl 3 rfl) ?_
    refine zc_v (w2 := fun u9 => wD h c u9) (va_runV (As := [.int (st.1 3)]) (rest := []) ⟨hx, hb, hml, hown, ht⟩ (mt_D_wrong l D h c H.size u_25 (st.1 3)) (cwV 1 ht (zgV zw_1114 zw_1116 zs_75 zw_7 zw_1117) rfl rfl rfl kd_D_wrong ⟨Nat.le_of_ble_eq_true rfl, Nat.le_of_ble_eq_true rfl⟩) ⟨zw_blind zw_tt, va_recv (hK.sub (tys' := [(c 21, .long), (c 22, .int), (c 23, .int), (c 24, .int), (c 25, .int), (c 26, .int), (c 27, .int), (c 28, .int)]) [0, 1, 2, 3, 4, 5, 6, 7] rfl) (hP.sub (ws' := wD h c u_25) [0, 1, 2, 3, 4, 5, 6, 7, 8] rfl) (ci := 6) (q0 := 0) rfl rfl, zw_go (hP.sub (ws' := wD h c u_25) [0, 1, 2, 3, 4, 5, 6, 7, 8] rfl) (hD.sub (ws' := wD h c u_25) [0, 1, 2, 3, 4, 5, 6, 7, 8] (by decide) rfl) (hK.sub (tys' := [(c 21, .long), (c 22, .int), (c 23, .int), (c 24, .int), (c 25, .int), (c 26, .int), (c 27, .int), (c 28, .int)]) [0, 1, 2, 3, 4, 5, 6, 7] rfl) (fun _ _ _ => trivial)⟩ rfl rfl hl.1 rfl (lv_room (Nat.le_of_ble_eq_true rfl)) d_D_number_127 ⟨Nat.le_of_ble_eq_true rfl, Nat.le_of_ble_eq_true rfl⟩) hP hD hS hA [0, 1, 2, 3, 4, 5, 6, 7, 8] [] [0, 1, 2, 3, 4, 5, 6, 7, 8] rfl rfl (by decide) (by decide) (by decide) (fun _ => rfl) (fun u_36 H locs hw hP hD hS => ?_)
    subst hw
    exact J_34 (m_wrong u_25 (st.1 3)) _ _ _ ⟨by simp only [if_pos c_35], hP, hD, hS, hl⟩
  obtain ⟨u_33, rfl⟩ : ∃ z, z = v9 := ⟨_, rfl⟩
  obtain ⟨eu_33, hP, hD, hS, hl⟩ := hG
  have ok_33 : okL (k9 + 12) u_33 := by rw [eu_33]; exact (okL_iteD (fun c_33 => (ol_wrong (by omega) ok_25)) (fun c_33 => ok_25))
  refine lv_lload hx hb d_D_number_130 (lv_at hl 6 rfl) ?_
  refine lv_l2i (v := x_29.toInt32) hx hb d_D_number_132 rfl ?_
  exact zl_i (u := u_33) hx hb hr hlocks hS hP hD (⟨by rw [hF_23]; simp only [fg_D_number_91, ← eu_25, ← ex_29, ← er_32, ← eu_33], by rw [hF_23]; simp only [fg_D_number_91, ← eu_25, ← ex_29, ← er_32, ← eu_33]⟩) d_D_number_133
theorem ol_u91 {k : Nat} {s u : SD} {p0 p1 y : Int64} {x : Int32} {i : Nat} (hk : k < 2000) (h : okL k u) : okL k (fg_D_number_91 s p0 p1 i x y u).2 := by
  unfold fg_D_number_91
  dsimp only
  exact okL_ite (ol_wrong hk (okL_ite (ol_wrong hk h) h)) (okL_ite (ol_wrong hk h) h)
theorem ol_u43 {s : SD} {p0 p1 : Int64} : ∀ (n k i : Nat) (x : Int32) (y : Int64) (u : SD), k + n < 2000 → okL k u → okL (k + n) (fl_D_number_43 s p0 p1 n i x y u).2 := by
  intro n
  induction n with
  | zero => intro k i x y u hk h; exact h
  | succ n ih =>
    intro k i x y u hk h
    have e : ∀ x y i, okL (k + (n + 1)) (fg_D_number_91 s p0 p1 i x y u).2 := fun x y i => ol_mono (ol_u91 (by omega) h) (by omega)
    rw [fl_D_number_43]
    dsimp only
    by_cases c2 : m_isDigit u = (0 : Int32)
    · rw [if_pos c2]; exact e _ _ _
    rw [if_neg c2]
    by_cases c3 : (9 : Int32) ≤ nI i
    · rw [if_pos c3]; exact e _ _ _
    rw [if_neg c3]
    have r := ih (k + 1) (i + 1) x ((((10 : Int64) * y) + (m_here u).toInt64) - (48 : Int64)) _ (by omega) (ol_inc (by omega) h)
    rw [show k + 1 + n = k + (n + 1) by omega] at r
    exact r
theorem ol_number {k : Nat} {st : SD} {p0 p1 : Int64} (hk : k < 1900) (h : okL k st) : okL (k + 13) (m_number st p0 p1).2 := by
  unfold m_number
  dsimp only
  exact ol_u43 12 (k + 1) 0 _ (0 : Int64) _ (by omega) (okL_ite (ol_mono h (by omega)) (ol_inc (by omega) h))
