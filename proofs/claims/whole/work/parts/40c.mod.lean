theorem d_D_get_0 : decode c_D_get 0 = .ok (.iload_n 1, 1) := by decide +kernel
theorem d_D_get_1 : decode c_D_get 1 = .ok (.bipush 8, 2) := by decide +kernel
theorem d_D_get_3 : decode c_D_get 3 = .ok (.if_icmp .ge 10, 3) := by decide +kernel
theorem d_D_get_6 : decode c_D_get 6 = .ok (.aload_n 0, 1) := by decide +kernel
theorem d_D_get_7 : decode c_D_get 7 = .ok (.getfield 212, 3) := by decide +kernel
theorem d_D_get_10 : decode c_D_get 10 = .ok (.iload_n 1, 1) := by decide +kernel
theorem d_D_get_11 : decode c_D_get 11 = .ok (.iaload, 1) := by decide +kernel
theorem d_D_get_12 : decode c_D_get 12 = .ok (.ireturn, 1) := by decide +kernel
theorem d_D_get_13 : decode c_D_get 13 = .ok (.iload_n 1, 1) := by decide +kernel
theorem d_D_get_14 : decode c_D_get 14 = .ok (.bipush 16, 2) := by decide +kernel
theorem d_D_get_16 : decode c_D_get 16 = .ok (.if_icmp .ge 20, 3) := by decide +kernel
theorem d_D_get_19 : decode c_D_get 19 = .ok (.aload_n 0, 1) := by decide +kernel
theorem d_D_get_20 : decode c_D_get 20 = .ok (.getfield 215, 3) := by decide +kernel
theorem d_D_get_23 : decode c_D_get 23 = .ok (.bipush 8, 2) := by decide +kernel
theorem d_D_get_25 : decode c_D_get 25 = .ok (.iload_n 2, 1) := by decide +kernel
theorem d_D_get_26 : decode c_D_get 26 = .ok (.imul, 1) := by decide +kernel
theorem d_D_get_27 : decode c_D_get 27 = .ok (.iload_n 1, 1) := by decide +kernel
theorem d_D_get_28 : decode c_D_get 28 = .ok (.iadd, 1) := by decide +kernel
theorem d_D_get_29 : decode c_D_get 29 = .ok (.bipush 8, 2) := by decide +kernel
theorem d_D_get_31 : decode c_D_get 31 = .ok (.isub, 1) := by decide +kernel
theorem d_D_get_32 : decode c_D_get 32 = .ok (.iaload, 1) := by decide +kernel
theorem d_D_get_33 : decode c_D_get 33 = .ok (.goto 44, 3) := by decide +kernel
theorem d_D_get_36 : decode c_D_get 36 = .ok (.iload_n 1, 1) := by decide +kernel
theorem d_D_get_37 : decode c_D_get 37 = .ok (.bipush 24, 2) := by decide +kernel
theorem d_D_get_39 : decode c_D_get 39 = .ok (.if_icmp .ge 20, 3) := by decide +kernel
theorem d_D_get_42 : decode c_D_get 42 = .ok (.aload_n 0, 1) := by decide +kernel
theorem d_D_get_43 : decode c_D_get 43 = .ok (.getfield 218, 3) := by decide +kernel
theorem d_D_get_46 : decode c_D_get 46 = .ok (.bipush 8, 2) := by decide +kernel
theorem d_D_get_48 : decode c_D_get 48 = .ok (.iload_n 2, 1) := by decide +kernel
theorem d_D_get_49 : decode c_D_get 49 = .ok (.imul, 1) := by decide +kernel
theorem d_D_get_50 : decode c_D_get 50 = .ok (.iload_n 1, 1) := by decide +kernel
theorem d_D_get_51 : decode c_D_get 51 = .ok (.iadd, 1) := by decide +kernel
theorem d_D_get_52 : decode c_D_get 52 = .ok (.bipush 16, 2) := by decide +kernel
theorem d_D_get_54 : decode c_D_get 54 = .ok (.isub, 1) := by decide +kernel
theorem d_D_get_55 : decode c_D_get 55 = .ok (.iaload, 1) := by decide +kernel
theorem d_D_get_56 : decode c_D_get 56 = .ok (.goto 21, 3) := by decide +kernel
theorem d_D_get_59 : decode c_D_get 59 = .ok (.aload_n 0, 1) := by decide +kernel
theorem d_D_get_60 : decode c_D_get 60 = .ok (.getfield 215, 3) := by decide +kernel
theorem d_D_get_63 : decode c_D_get 63 = .ok (.bipush 8, 2) := by decide +kernel
theorem d_D_get_65 : decode c_D_get 65 = .ok (.iload_n 2, 1) := by decide +kernel
theorem d_D_get_66 : decode c_D_get 66 = .ok (.iconst 1, 1) := by decide +kernel
theorem d_D_get_67 : decode c_D_get 67 = .ok (.iadd, 1) := by decide +kernel
theorem d_D_get_68 : decode c_D_get 68 = .ok (.iconst 3, 1) := by decide +kernel
theorem d_D_get_69 : decode c_D_get 69 = .ok (.iand, 1) := by decide +kernel
theorem d_D_get_70 : decode c_D_get 70 = .ok (.imul, 1) := by decide +kernel
theorem d_D_get_71 : decode c_D_get 71 = .ok (.iload_n 1, 1) := by decide +kernel
theorem d_D_get_72 : decode c_D_get 72 = .ok (.iadd, 1) := by decide +kernel
theorem d_D_get_73 : decode c_D_get 73 = .ok (.bipush 24, 2) := by decide +kernel
theorem d_D_get_75 : decode c_D_get 75 = .ok (.isub, 1) := by decide +kernel
theorem d_D_get_76 : decode c_D_get 76 = .ok (.iaload, 1) := by decide +kernel
theorem d_D_get_77 : decode c_D_get 77 = .ok (.ireturn, 1) := by decide +kernel
theorem kd_D_get : (y_D_get).cls = "WindowMachineModel" ∧ (y_D_get).cls ≠ "java/lang/invoke/MethodHandle" ∧ (y_D_get).cls ≠ "java/lang/invoke/VarHandle" ∧ (parseMethodDescriptor (y_D_get).desc).map (fun d => d.parameters.length) = some 2 := by decide +kernel
def m_get (st : SD) (p0 : Int32) (p1 : Int32) : Int32 := (if (8 : Int32) ≤ p0 then (let x_2 := (if (16 : Int32) ≤ p0 then (if (24 : Int32) ≤ p0 then st.2.2.2.2.1 ((((8 : Int32) * ((p1 + (1 : Int32)) &&& (3 : Int32))) + p0) - (24 : Int32)).toNatClampNeg else st.2.2.2.2.2 ((((8 : Int32) * p1) + p0) - (16 : Int32)).toNatClampNeg) else st.2.2.2.2.1 ((((8 : Int32) * p1) + p0) - (8 : Int32)).toNatClampNeg); x_2) else st.2.2.2.1 p0.toNatClampNeg)
set_option maxHeartbeats 4000000 in
set_option maxRecDepth 100000 in
theorem mt_D_get (l : Launch) (D : va_G) (h : Nat → Nat) (c : Nat → ClassId) (sz : Nat) (st : SD) (p0 : Int32) (p1 : Int32) (hr9 : vp_in p0 32) (hw9 : vp_in p1 4) : Met l y_D_get w_D_get ({ frames := 0, cells := 0, slots := 0, locals := 0 }) (va_Pc [.ref (h 20), .int p0, .int p1] (zw_pre D vwCl [(c 21, .long), (c 22, .int), (c 23, .int), (c 24, .int), (c 25, .int), (c 26, .int), (c 27, .int), (c 28, .int)] sz (wD h c st) (fun _ => True))) (va_Qi (fun r (_ : Unit) => r = m_get st p0 p1) (fun u t => zw_at D vwCl (va_A (wD h c st) sz) ((fun (_ : Unit) => wD h c st) u) t) (va_A (wD h c st) sz)) 0 0 (va_A (wD h c st) sz) := by
  refine zm (Qf := fun A => va_Qi (fun r (_ : Unit) => r = m_get st p0 p1) (fun u t => zw_at D vwCl A ((fun (_ : Unit) => wD h c st) u) t) A) (Zf := fun _ _ => True) (cc := c_D_get) (nL := 3) (ret := (some .int)) (by decide) rfl (Nat.le_of_ble_eq_true rfl) ?_
  intro p e s m below meth c9 A H locs ls hx hb hml hown hts hr hlocks hA hK hP hD hS hZ hl
  have hl : lv_has ls 3 [(0, .ref (h 20)), (1, .int p0), (2, .int p1)] := hl
  have ht : ∀ w9 ∈ zT, w9.before _ s = true := fun w9 h9 => hts w9 (List.mem_cons_of_mem _ h9)
  refine lv_iload_n hx hb d_D_get_0 rfl (lv_at hl 1 rfl) ?_
  refine lv_bipush (v := (8 : Int32)) hx hb d_D_get_1 (by decide) ?_
  refine lv_icmp_ge (tgt := 13) hx hb d_D_get_3 (by decide) (fun c_1 => ?_) (fun c_1 => ?_)
  · refine lv_iload_n hx hb d_D_get_13 rfl (lv_at hl 1 rfl) ?_
    refine lv_bipush (v := (16 : Int32)) hx hb d_D_get_14 (by decide) ?_
    refine zcut (X := Int32) (G := fun v9 H locs ls => v9 = (if (16 : Int32) ≤ p0 then (if (24 : Int32) ≤ p0 then st.2.2.2.2.1 ((((8 : Int32) * ((p1 + (1 : Int32)) &&& (3 : Int32))) + p0) - (24 : Int32)).toNatClampNeg else st.2.2.2.2.2 ((((8 : Int32) * p1) + p0) - (16 : Int32)).toNatClampNeg) else st.2.2.2.2.1 ((((8 : Int32) * p1) + p0) - (8 : Int32)).toNatClampNeg) ∧ va_P D vwCl (wD h c st) H ∧ va_D A (wD h c st) ∧ va_S A s.heap H locs ∧ lv_has ls 3 [(0, .ref (h 20)), (1, .int p0), (2, .int p1)]) (fr := fun v9 ls => F0 m 77 ls [.int v9]) (fun J_3 => ?_) (fun v9 H locs ls hG => ?_)
    · refine lv_icmp_ge (tgt := 36) hx hb d_D_get_16 (by decide) (fun c_4 => ?_) (fun c_4 => ?_)
      · refine lv_iload_n hx hb d_D_get_36 rfl (lv_at hl 1 rfl) ?_
        refine lv_bipush (v := (24 : Int32)) hx hb d_D_get_37 (by decide) ?_
        refine lv_icmp_ge (tgt := 59) hx hb d_D_get_39 (by decide) (fun c_5 => ?_) (fun c_5 => ?_)
        · refine lv_aload_n hx hb d_D_get_59 rfl (lv_at hl 0 rfl) ?_
          refine va_get (D := D) (ci := 6) (v := .ref (h 27)) (C := "WindowMachineModel") (T := T_D) (N := 31) hx hb ht zi_D hown hK hP 0 rfl rfl 10 (by decide) (ht _ zw_864) (fun _ h9 => h9) rfl d_D_get_60 ?_
          refine lv_bipush (v := (8 : Int32)) hx hb d_D_get_63 (by decide) ?_
          refine lv_iload_n hx hb d_D_get_65 rfl (lv_at hl 2 rfl) ?_
          refine lv_iconst (v := (1 : Int32)) hx hb d_D_get_66 (by decide) ?_
          refine lv_iadd hx hb d_D_get_67 ?_
          refine lv_iconst (v := (3 : Int32)) hx hb d_D_get_68 (by decide) ?_
          refine lv_iand hx hb d_D_get_69 ?_
          refine lv_imul hx hb d_D_get_70 ?_
          refine lv_iload_n hx hb d_D_get_71 rfl (lv_at hl 1 rfl) ?_
          refine lv_iadd hx hb d_D_get_72 ?_
          refine lv_bipush (v := (24 : Int32)) hx hb d_D_get_73 (by decide) ?_
          refine lv_isub hx hb d_D_get_75 ?_
          refine va_iald hx hb hK hP 7 6 rfl rfl (g_o2 hr9 hw9 c_5) d_D_get_76 ?_
          exact J_3 (st.2.2.2.2.1 ((((8 : Int32) * ((p1 + (1 : Int32)) &&& (3 : Int32))) + p0) - (24 : Int32)).toNatClampNeg) _ _ _ ⟨by simp only [if_pos c_4, if_pos c_5], hP, hD, hS, hl⟩
        refine lv_aload_n hx hb d_D_get_42 rfl (lv_at hl 0 rfl) ?_
        refine va_get (D := D) (ci := 6) (v := .ref (h 28)) (C := "WindowMachineModel") (T := T_D) (N := 31) hx hb ht zi_D hown hK hP 0 rfl rfl 11 (by decide) (ht _ zw_865) (fun _ h9 => h9) rfl d_D_get_43 ?_
        refine lv_bipush (v := (8 : Int32)) hx hb d_D_get_46 (by decide) ?_
        refine lv_iload_n hx hb d_D_get_48 rfl (lv_at hl 2 rfl) ?_
        refine lv_imul hx hb d_D_get_49 ?_
        refine lv_iload_n hx hb d_D_get_50 rfl (lv_at hl 1 rfl) ?_
        refine lv_iadd hx hb d_D_get_51 ?_
        refine lv_bipush (v := (16 : Int32)) hx hb d_D_get_52 (by decide) ?_
        refine lv_isub hx hb d_D_get_54 ?_
        refine va_iald hx hb hK hP 8 7 rfl rfl (g_lo hr9 hw9 c_4 c_5) d_D_get_55 ?_
        refine lv_goto (tgt := 77) hx hb d_D_get_56 (by decide) ?_
        exact J_3 (st.2.2.2.2.2 ((((8 : Int32) * p1) + p0) - (16 : Int32)).toNatClampNeg) _ _ _ ⟨by simp only [if_pos c_4, if_neg c_5], hP, hD, hS, hl⟩
      refine lv_aload_n hx hb d_D_get_19 rfl (lv_at hl 0 rfl) ?_
      refine va_get (D := D) (ci := 6) (v := .ref (h 27)) (C := "WindowMachineModel") (T := T_D) (N := 31) hx hb ht zi_D hown hK hP 0 rfl rfl 10 (by decide) (ht _ zw_864) (fun _ h9 => h9) rfl d_D_get_20 ?_
      refine lv_bipush (v := (8 : Int32)) hx hb d_D_get_23 (by decide) ?_
      refine lv_iload_n hx hb d_D_get_25 rfl (lv_at hl 2 rfl) ?_
      refine lv_imul hx hb d_D_get_26 ?_
      refine lv_iload_n hx hb d_D_get_27 rfl (lv_at hl 1 rfl) ?_
      refine lv_iadd hx hb d_D_get_28 ?_
      refine lv_bipush (v := (8 : Int32)) hx hb d_D_get_29 (by decide) ?_
      refine lv_isub hx hb d_D_get_31 ?_
      refine va_iald hx hb hK hP 7 6 rfl rfl (g_o1 hr9 hw9 c_1 c_4) d_D_get_32 ?_
      refine lv_goto (tgt := 77) hx hb d_D_get_33 (by decide) ?_
      exact J_3 (st.2.2.2.2.1 ((((8 : Int32) * p1) + p0) - (8 : Int32)).toNatClampNeg) _ _ _ ⟨by simp only [if_neg c_4], hP, hD, hS, hl⟩
    obtain ⟨x_2, rfl⟩ : ∃ z, z = v9 := ⟨_, rfl⟩
    obtain ⟨ex_2, hP, hD, hS, hl⟩ := hG
    exact zl_i (u := ()) hx hb hr hlocks hS hP hD (by simp only [m_get, ← ex_2, if_pos c_1]) d_D_get_77
  refine lv_aload_n hx hb d_D_get_6 rfl (lv_at hl 0 rfl) ?_
  refine va_get (D := D) (ci := 6) (v := .ref (h 26)) (C := "WindowMachineModel") (T := T_D) (N := 31) hx hb ht zi_D hown hK hP 0 rfl rfl 9 (by decide) (ht _ zw_863) (fun _ h9 => h9) rfl d_D_get_7 ?_
  refine lv_iload_n hx hb d_D_get_10 rfl (lv_at hl 1 rfl) ?_
  refine va_iald hx hb hK hP 6 5 rfl rfl (g_gl hr9 c_1) d_D_get_11 ?_
  exact zl_i (u := ()) hx hb hr hlocks hS hP hD (by simp only [m_get, if_neg c_1]) d_D_get_12
theorem d_D_gives_0 : decode c_D_gives 0 = .ok (.iload_n 1, 1) := by decide +kernel
theorem d_D_gives_1 : decode c_D_gives 1 = .ok (.ifCond .ne 4, 3) := by decide +kernel
theorem d_D_gives_4 : decode c_D_gives 4 = .ok (.return_, 1) := by decide +kernel
theorem d_D_gives_5 : decode c_D_gives 5 = .ok (.iload_n 1, 1) := by decide +kernel
theorem d_D_gives_6 : decode c_D_gives 6 = .ok (.bipush 8, 2) := by decide +kernel
theorem d_D_gives_8 : decode c_D_gives 8 = .ok (.if_icmp .ge 13, 3) := by decide +kernel
theorem d_D_gives_11 : decode c_D_gives 11 = .ok (.aload_n 0, 1) := by decide +kernel
theorem d_D_gives_12 : decode c_D_gives 12 = .ok (.getfield 212, 3) := by decide +kernel
theorem d_D_gives_15 : decode c_D_gives 15 = .ok (.iload_n 1, 1) := by decide +kernel
theorem d_D_gives_16 : decode c_D_gives 16 = .ok (.iload_n 3, 1) := by decide +kernel
theorem d_D_gives_17 : decode c_D_gives 17 = .ok (.iastore, 1) := by decide +kernel
theorem d_D_gives_18 : decode c_D_gives 18 = .ok (.goto 70, 3) := by decide +kernel
theorem d_D_gives_21 : decode c_D_gives 21 = .ok (.iload_n 1, 1) := by decide +kernel
theorem d_D_gives_22 : decode c_D_gives 22 = .ok (.bipush 16, 2) := by decide +kernel
theorem d_D_gives_24 : decode c_D_gives 24 = .ok (.if_icmp .ge 21, 3) := by decide +kernel
theorem d_D_gives_27 : decode c_D_gives 27 = .ok (.aload_n 0, 1) := by decide +kernel
theorem d_D_gives_28 : decode c_D_gives 28 = .ok (.getfield 215, 3) := by decide +kernel
theorem d_D_gives_31 : decode c_D_gives 31 = .ok (.bipush 8, 2) := by decide +kernel
theorem d_D_gives_33 : decode c_D_gives 33 = .ok (.iload_n 2, 1) := by decide +kernel
theorem d_D_gives_34 : decode c_D_gives 34 = .ok (.imul, 1) := by decide +kernel
theorem d_D_gives_35 : decode c_D_gives 35 = .ok (.iload_n 1, 1) := by decide +kernel
theorem d_D_gives_36 : decode c_D_gives 36 = .ok (.iadd, 1) := by decide +kernel
theorem d_D_gives_37 : decode c_D_gives 37 = .ok (.bipush 8, 2) := by decide +kernel
theorem d_D_gives_39 : decode c_D_gives 39 = .ok (.isub, 1) := by decide +kernel
theorem d_D_gives_40 : decode c_D_gives 40 = .ok (.iload_n 3, 1) := by decide +kernel
theorem d_D_gives_41 : decode c_D_gives 41 = .ok (.iastore, 1) := by decide +kernel
theorem d_D_gives_42 : decode c_D_gives 42 = .ok (.goto 46, 3) := by decide +kernel
theorem d_D_gives_45 : decode c_D_gives 45 = .ok (.iload_n 1, 1) := by decide +kernel
theorem d_D_gives_46 : decode c_D_gives 46 = .ok (.bipush 24, 2) := by decide +kernel
theorem d_D_gives_48 : decode c_D_gives 48 = .ok (.if_icmp .ge 21, 3) := by decide +kernel
theorem d_D_gives_51 : decode c_D_gives 51 = .ok (.aload_n 0, 1) := by decide +kernel
theorem d_D_gives_52 : decode c_D_gives 52 = .ok (.getfield 218, 3) := by decide +kernel
theorem d_D_gives_55 : decode c_D_gives 55 = .ok (.bipush 8, 2) := by decide +kernel
theorem d_D_gives_57 : decode c_D_gives 57 = .ok (.iload_n 2, 1) := by decide +kernel
theorem d_D_gives_58 : decode c_D_gives 58 = .ok (.imul, 1) := by decide +kernel
theorem d_D_gives_59 : decode c_D_gives 59 = .ok (.iload_n 1, 1) := by decide +kernel
theorem d_D_gives_60 : decode c_D_gives 60 = .ok (.iadd, 1) := by decide +kernel
theorem d_D_gives_61 : decode c_D_gives 61 = .ok (.bipush 16, 2) := by decide +kernel
theorem d_D_gives_63 : decode c_D_gives 63 = .ok (.isub, 1) := by decide +kernel
theorem d_D_gives_64 : decode c_D_gives 64 = .ok (.iload_n 3, 1) := by decide +kernel
theorem d_D_gives_65 : decode c_D_gives 65 = .ok (.iastore, 1) := by decide +kernel
theorem d_D_gives_66 : decode c_D_gives 66 = .ok (.goto 22, 3) := by decide +kernel
theorem d_D_gives_69 : decode c_D_gives 69 = .ok (.aload_n 0, 1) := by decide +kernel
theorem d_D_gives_70 : decode c_D_gives 70 = .ok (.getfield 215, 3) := by decide +kernel
theorem d_D_gives_73 : decode c_D_gives 73 = .ok (.bipush 8, 2) := by decide +kernel
theorem d_D_gives_75 : decode c_D_gives 75 = .ok (.iload_n 2, 1) := by decide +kernel
theorem d_D_gives_76 : decode c_D_gives 76 = .ok (.iconst 1, 1) := by decide +kernel
theorem d_D_gives_77 : decode c_D_gives 77 = .ok (.iadd, 1) := by decide +kernel
theorem d_D_gives_78 : decode c_D_gives 78 = .ok (.iconst 3, 1) := by decide +kernel
theorem d_D_gives_79 : decode c_D_gives 79 = .ok (.iand, 1) := by decide +kernel
theorem d_D_gives_80 : decode c_D_gives 80 = .ok (.imul, 1) := by decide +kernel
theorem d_D_gives_81 : decode c_D_gives 81 = .ok (.iload_n 1, 1) := by decide +kernel
theorem d_D_gives_82 : decode c_D_gives 82 = .ok (.iadd, 1) := by decide +kernel
theorem d_D_gives_83 : decode c_D_gives 83 = .ok (.bipush 24, 2) := by decide +kernel
theorem d_D_gives_85 : decode c_D_gives 85 = .ok (.isub, 1) := by decide +kernel
theorem d_D_gives_86 : decode c_D_gives 86 = .ok (.iload_n 3, 1) := by decide +kernel
theorem d_D_gives_87 : decode c_D_gives 87 = .ok (.iastore, 1) := by decide +kernel
theorem d_D_gives_88 : decode c_D_gives 88 = .ok (.return_, 1) := by decide +kernel
theorem kd_D_gives : (y_D_gives).cls = "WindowMachineModel" ∧ (y_D_gives).cls ≠ "java/lang/invoke/MethodHandle" ∧ (y_D_gives).cls ≠ "java/lang/invoke/VarHandle" ∧ (parseMethodDescriptor (y_D_gives).desc).map (fun d => d.parameters.length) = some 3 := by decide +kernel
def m_gives (st : SD) (p0 : Int32) (p1 : Int32) (p2 : Int32) : SD := (if p0 = (0 : Int32) then st else (let u_2 := (if (8 : Int32) ≤ p0 then (if (16 : Int32) ≤ p0 then (if (24 : Int32) ≤ p0 then (st.1, st.2.1, st.2.2.1, st.2.2.2.1, upd st.2.2.2.2.1 ((((8 : Int32) * ((p1 + (1 : Int32)) &&& (3 : Int32))) + p0) - (24 : Int32)).toNatClampNeg p2, st.2.2.2.2.2) else (st.1, st.2.1, st.2.2.1, st.2.2.2.1, st.2.2.2.2.1, upd st.2.2.2.2.2 ((((8 : Int32) * p1) + p0) - (16 : Int32)).toNatClampNeg p2)) else (st.1, st.2.1, st.2.2.1, st.2.2.2.1, upd st.2.2.2.2.1 ((((8 : Int32) * p1) + p0) - (8 : Int32)).toNatClampNeg p2, st.2.2.2.2.2)) else (st.1, st.2.1, st.2.2.1, upd st.2.2.2.1 p0.toNatClampNeg p2, st.2.2.2.2.1, st.2.2.2.2.2)); u_2))
set_option maxHeartbeats 4000000 in
set_option maxRecDepth 100000 in
theorem mt_D_gives (l : Launch) (D : va_G) (h : Nat → Nat) (c : Nat → ClassId) (sz : Nat) (st : SD) (p0 : Int32) (p1 : Int32) (p2 : Int32) (hr9 : vp_in p0 32) (hw9 : vp_in p1 4) : Met l y_D_gives w_D_gives ({ frames := 0, cells := 0, slots := 0, locals := 0 }) (va_Pc [.ref (h 20), .int p0, .int p1, .int p2] (zw_pre D vwCl [(c 21, .long), (c 22, .int), (c 23, .int), (c 24, .int), (c 25, .int), (c 26, .int), (c 27, .int), (c 28, .int)] sz (wD h c st) (fun _ => True))) (va_Qv (fun (u : SD) => u = m_gives st p0 p1 p2) (fun u t => zw_at D vwCl (va_A (wD h c st) sz) ((fun (u : SD) => wD h c u) u) t) (va_A (wD h c st) sz)) 0 0 (va_A (wD h c st) sz) := by
  refine zm (Qf := fun A => va_Qv (fun (u : SD) => u = m_gives st p0 p1 p2) (fun u t => zw_at D vwCl A ((fun (u : SD) => wD h c u) u) t) A) (Zf := fun _ _ => True) (cc := c_D_gives) (nL := 4) (ret := none) (by decide) rfl (Nat.le_of_ble_eq_true rfl) ?_
  intro p e s m below meth c9 A H locs ls hx hb hml hown hts hr hlocks hA hK hP hD hS hZ hl
  have hl : lv_has ls 4 [(0, .ref (h 20)), (1, .int p0), (2, .int p1), (3, .int p2)] := hl
  have ht : ∀ w9 ∈ zT, w9.before _ s = true := fun w9 h9 => hts w9 (List.mem_cons_of_mem _ h9)
  refine lv_iload_n hx hb d_D_gives_0 rfl (lv_at hl 1 rfl) ?_
  refine lv_if_ne (tgt := 5) hx hb d_D_gives_1 (by decide) (fun c_1 => ?_) (fun c_1 => ?_)
  · refine lv_iload_n hx hb d_D_gives_5 rfl (lv_at hl 1 rfl) ?_
    refine lv_bipush (v := (8 : Int32)) hx hb d_D_gives_6 (by decide) ?_
    refine zcut (X := SD) (G := fun v9 H locs ls => v9 = (if (8 : Int32) ≤ p0 then (if (16 : Int32) ≤ p0 then (if (24 : Int32) ≤ p0 then (st.1, st.2.1, st.2.2.1, st.2.2.2.1, upd st.2.2.2.2.1 ((((8 : Int32) * ((p1 + (1 : Int32)) &&& (3 : Int32))) + p0) - (24 : Int32)).toNatClampNeg p2, st.2.2.2.2.2) else (st.1, st.2.1, st.2.2.1, st.2.2.2.1, st.2.2.2.2.1, upd st.2.2.2.2.2 ((((8 : Int32) * p1) + p0) - (16 : Int32)).toNatClampNeg p2)) else (st.1, st.2.1, st.2.2.1, st.2.2.2.1, upd st.2.2.2.2.1 ((((8 : Int32) * p1) + p0) - (8 : Int32)).toNatClampNeg p2, st.2.2.2.2.2)) else (st.1, st.2.1, st.2.2.1, upd st.2.2.2.1 p0.toNatClampNeg p2, st.2.2.2.2.1, st.2.2.2.2.2)) ∧ va_P D vwCl (wD h c v9) H ∧ va_D A (wD h c v9) ∧ va_S A s.heap H locs ∧ lv_has ls 4 [(0, .ref (h 20)), (1, .int p0), (2, .int p1), (3, .int p2)]) (fr := fun v9 ls => F0 m 88 ls []) (fun J_3 => ?_) (fun v9 H locs ls hG => ?_)
    · refine lv_icmp_ge (tgt := 21) hx hb d_D_gives_8 (by decide) (fun c_4 => ?_) (fun c_4 => ?_)
      · refine lv_iload_n hx hb d_D_gives_21 rfl (lv_at hl 1 rfl) ?_
        refine lv_bipush (v := (16 : Int32)) hx hb d_D_gives_22 (by decide) ?_
        refine lv_icmp_ge (tgt := 45) hx hb d_D_gives_24 (by decide) (fun c_5 => ?_) (fun c_5 => ?_)
        · refine lv_iload_n hx hb d_D_gives_45 rfl (lv_at hl 1 rfl) ?_
          refine lv_bipush (v := (24 : Int32)) hx hb d_D_gives_46 (by decide) ?_
          refine lv_icmp_ge (tgt := 69) hx hb d_D_gives_48 (by decide) (fun c_6 => ?_) (fun c_6 => ?_)
          · refine lv_aload_n hx hb d_D_gives_69 rfl (lv_at hl 0 rfl) ?_
            refine va_get (D := D) (ci := 6) (v := .ref (h 27)) (C := "WindowMachineModel") (T := T_D) (N := 31) hx hb ht zi_D hown hK hP 0 rfl rfl 10 (by decide) (ht _ zw_864) (fun _ h9 => h9) rfl d_D_gives_70 ?_
            refine lv_bipush (v := (8 : Int32)) hx hb d_D_gives_73 (by decide) ?_
            refine lv_iload_n hx hb d_D_gives_75 rfl (lv_at hl 2 rfl) ?_
            refine lv_iconst (v := (1 : Int32)) hx hb d_D_gives_76 (by decide) ?_
            refine lv_iadd hx hb d_D_gives_77 ?_
            refine lv_iconst (v := (3 : Int32)) hx hb d_D_gives_78 (by decide) ?_
            refine lv_iand hx hb d_D_gives_79 ?_
            refine lv_imul hx hb d_D_gives_80 ?_
            refine lv_iload_n hx hb d_D_gives_81 rfl (lv_at hl 1 rfl) ?_
            refine lv_iadd hx hb d_D_gives_82 ?_
            refine lv_bipush (v := (24 : Int32)) hx hb d_D_gives_83 (by decide) ?_
            refine lv_isub hx hb d_D_gives_85 ?_
            refine lv_iload_n hx hb d_D_gives_86 rfl (lv_at hl 3 rfl) ?_
            refine va_iast hx hb hK hP hD hS 7 6 rfl rfl (g_o2 hr9 hw9 c_6) d_D_gives_87 (fun H locs hP hD hS => ?_)
            have hP : va_P D vwCl (wD h c (st.1, st.2.1, st.2.2.1, st.2.2.2.1, upd st.2.2.2.2.1 ((((8 : Int32) * ((p1 + (1 : Int32)) &&& (3 : Int32))) + p0) - (24 : Int32)).toNatClampNeg p2, st.2.2.2.2.2)) H := hP
            have hD : va_D A (wD h c (st.1, st.2.1, st.2.2.1, st.2.2.2.1, upd st.2.2.2.2.1 ((((8 : Int32) * ((p1 + (1 : Int32)) &&& (3 : Int32))) + p0) - (24 : Int32)).toNatClampNeg p2, st.2.2.2.2.2)) := hD
            exact J_3 (st.1, st.2.1, st.2.2.1, st.2.2.2.1, upd st.2.2.2.2.1 ((((8 : Int32) * ((p1 + (1 : Int32)) &&& (3 : Int32))) + p0) - (24 : Int32)).toNatClampNeg p2, st.2.2.2.2.2) _ _ _ ⟨by simp only [if_pos c_4, if_pos c_5, if_pos c_6], hP, hD, hS, hl⟩
          refine lv_aload_n hx hb d_D_gives_51 rfl (lv_at hl 0 rfl) ?_
          refine va_get (D := D) (ci := 6) (v := .ref (h 28)) (C := "WindowMachineModel") (T := T_D) (N := 31) hx hb ht zi_D hown hK hP 0 rfl rfl 11 (by decide) (ht _ zw_865) (fun _ h9 => h9) rfl d_D_gives_52 ?_
          refine lv_bipush (v := (8 : Int32)) hx hb d_D_gives_55 (by decide) ?_
          refine lv_iload_n hx hb d_D_gives_57 rfl (lv_at hl 2 rfl) ?_
          refine lv_imul hx hb d_D_gives_58 ?_
          refine lv_iload_n hx hb d_D_gives_59 rfl (lv_at hl 1 rfl) ?_
          refine lv_iadd hx hb d_D_gives_60 ?_
          refine lv_bipush (v := (16 : Int32)) hx hb d_D_gives_61 (by decide) ?_
          refine lv_isub hx hb d_D_gives_63 ?_
          refine lv_iload_n hx hb d_D_gives_64 rfl (lv_at hl 3 rfl) ?_
          refine va_iast hx hb hK hP hD hS 8 7 rfl rfl (g_lo hr9 hw9 c_5 c_6) d_D_gives_65 (fun H locs hP hD hS => ?_)
          have hP : va_P D vwCl (wD h c (st.1, st.2.1, st.2.2.1, st.2.2.2.1, st.2.2.2.2.1, upd st.2.2.2.2.2 ((((8 : Int32) * p1) + p0) - (16 : Int32)).toNatClampNeg p2)) H := hP
          have hD : va_D A (wD h c (st.1, st.2.1, st.2.2.1, st.2.2.2.1, st.2.2.2.2.1, upd st.2.2.2.2.2 ((((8 : Int32) * p1) + p0) - (16 : Int32)).toNatClampNeg p2)) := hD
          refine lv_goto (tgt := 88) hx hb d_D_gives_66 (by decide) ?_
          exact J_3 (st.1, st.2.1, st.2.2.1, st.2.2.2.1, st.2.2.2.2.1, upd st.2.2.2.2.2 ((((8 : Int32) * p1) + p0) - (16 : Int32)).toNatClampNeg p2) _ _ _ ⟨by simp only [if_pos c_4, if_pos c_5, if_neg c_6], hP, hD, hS, hl⟩
        refine lv_aload_n hx hb d_D_gives_27 rfl (lv_at hl 0 rfl) ?_
        refine va_get (D := D) (ci := 6) (v := .ref (h 27)) (C := "WindowMachineModel") (T := T_D) (N := 31) hx hb ht zi_D hown hK hP 0 rfl rfl 10 (by decide) (ht _ zw_864) (fun _ h9 => h9) rfl d_D_gives_28 ?_
        refine lv_bipush (v := (8 : Int32)) hx hb d_D_gives_31 (by decide) ?_
        refine lv_iload_n hx hb d_D_gives_33 rfl (lv_at hl 2 rfl) ?_
        refine lv_imul hx hb d_D_gives_34 ?_
        refine lv_iload_n hx hb d_D_gives_35 rfl (lv_at hl 1 rfl) ?_
        refine lv_iadd hx hb d_D_gives_36 ?_
        refine lv_bipush (v := (8 : Int32)) hx hb d_D_gives_37 (by decide) ?_
        refine lv_isub hx hb d_D_gives_39 ?_
        refine lv_iload_n hx hb d_D_gives_40 rfl (lv_at hl 3 rfl) ?_
        refine va_iast hx hb hK hP hD hS 7 6 rfl rfl (g_o1 hr9 hw9 c_4 c_5) d_D_gives_41 (fun H locs hP hD hS => ?_)
        have hP : va_P D vwCl (wD h c (st.1, st.2.1, st.2.2.1, st.2.2.2.1, upd st.2.2.2.2.1 ((((8 : Int32) * p1) + p0) - (8 : Int32)).toNatClampNeg p2, st.2.2.2.2.2)) H := hP
        have hD : va_D A (wD h c (st.1, st.2.1, st.2.2.1, st.2.2.2.1, upd st.2.2.2.2.1 ((((8 : Int32) * p1) + p0) - (8 : Int32)).toNatClampNeg p2, st.2.2.2.2.2)) := hD
        refine lv_goto (tgt := 88) hx hb d_D_gives_42 (by decide) ?_
        exact J_3 (st.1, st.2.1, st.2.2.1, st.2.2.2.1, upd st.2.2.2.2.1 ((((8 : Int32) * p1) + p0) - (8 : Int32)).toNatClampNeg p2, st.2.2.2.2.2) _ _ _ ⟨by simp only [if_pos c_4, if_neg c_5], hP, hD, hS, hl⟩
      refine lv_aload_n hx hb d_D_gives_11 rfl (lv_at hl 0 rfl) ?_
      refine va_get (D := D) (ci := 6) (v := .ref (h 26)) (C := "WindowMachineModel") (T := T_D) (N := 31) hx hb ht zi_D hown hK hP 0 rfl rfl 9 (by decide) (ht _ zw_863) (fun _ h9 => h9) rfl d_D_gives_12 ?_
      refine lv_iload_n hx hb d_D_gives_15 rfl (lv_at hl 1 rfl) ?_
      refine lv_iload_n hx hb d_D_gives_16 rfl (lv_at hl 3 rfl) ?_
      refine va_iast hx hb hK hP hD hS 6 5 rfl rfl (g_gl hr9 c_4) d_D_gives_17 (fun H locs hP hD hS => ?_)
      have hP : va_P D vwCl (wD h c (st.1, st.2.1, st.2.2.1, upd st.2.2.2.1 p0.toNatClampNeg p2, st.2.2.2.2.1, st.2.2.2.2.2)) H := hP
      have hD : va_D A (wD h c (st.1, st.2.1, st.2.2.1, upd st.2.2.2.1 p0.toNatClampNeg p2, st.2.2.2.2.1, st.2.2.2.2.2)) := hD
      refine lv_goto (tgt := 88) hx hb d_D_gives_18 (by decide) ?_
      exact J_3 (st.1, st.2.1, st.2.2.1, upd st.2.2.2.1 p0.toNatClampNeg p2, st.2.2.2.2.1, st.2.2.2.2.2) _ _ _ ⟨by simp only [if_neg c_4], hP, hD, hS, hl⟩
    obtain ⟨u_2, rfl⟩ : ∃ z, z = v9 := ⟨_, rfl⟩
    obtain ⟨eu_2, hP, hD, hS, hl⟩ := hG
    exact zl_v (u := u_2) hx hb hr hlocks hS hP hD (by simp only [m_gives, ← eu_2, if_neg c_1]) d_D_gives_88
  exact zl_v (u := st) hx hb hr hlocks hS hP hD (by simp only [m_gives, if_pos c_1]) d_D_gives_4
