theorem tl_in1 (x : Int32) : vp_in (((8 : Int32) * (x &&& (3 : Int32))) + (1 : Int32)) 32 := by
  obtain ⟨i, hi, e⟩ := vp_in_of (b3_in x) (by omega)
  rw [e]
  have h : ∀ i : Fin 4, ¬ ((((8 : Int32) * nI i) + (1 : Int32)) < 0 ∨ 32 ≤ (((8 : Int32) * nI i) + (1 : Int32)).toNatClampNeg) := by decide +kernel
  exact h ⟨i, hi⟩
theorem tl_in2 (x : Int32) : vp_in (((8 : Int32) * (x &&& (3 : Int32))) + (2 : Int32)) 32 := by
  obtain ⟨i, hi, e⟩ := vp_in_of (b3_in x) (by omega)
  rw [e]
  have h : ∀ i : Fin 4, ¬ ((((8 : Int32) * nI i) + (2 : Int32)) < 0 ∨ 32 ≤ (((8 : Int32) * nI i) + (2 : Int32)).toNatClampNeg) := by decide +kernel
  exact h ⟨i, hi⟩
theorem d_D_trapped_0 : decode c_D_trapped 0 = .ok (.aload_n 0, 1) := by decide +kernel
theorem d_D_trapped_1 : decode c_D_trapped 1 = .ok (.dup, 1) := by decide +kernel
theorem d_D_trapped_2 : decode c_D_trapped 2 = .ok (.getfield 252, 3) := by decide +kernel
theorem d_D_trapped_5 : decode c_D_trapped 5 = .ok (.iconst 1, 1) := by decide +kernel
theorem d_D_trapped_6 : decode c_D_trapped 6 = .ok (.iadd, 1) := by decide +kernel
theorem d_D_trapped_7 : decode c_D_trapped 7 = .ok (.putfield 252, 3) := by decide +kernel
theorem d_D_trapped_10 : decode c_D_trapped 10 = .ok (.aload_n 0, 1) := by decide +kernel
theorem d_D_trapped_11 : decode c_D_trapped 11 = .ok (.getfield 274, 3) := by decide +kernel
theorem d_D_trapped_14 : decode c_D_trapped 14 = .ok (.ifCond .ne 12, 3) := by decide +kernel
theorem d_D_trapped_17 : decode c_D_trapped 17 = .ok (.aload_n 0, 1) := by decide +kernel
theorem d_D_trapped_18 : decode c_D_trapped 18 = .ok (.aload_n 0, 1) := by decide +kernel
theorem d_D_trapped_19 : decode c_D_trapped 19 = .ok (.getfield 312, 3) := by decide +kernel
theorem d_D_trapped_22 : decode c_D_trapped 22 = .ok (.putfield 221, 3) := by decide +kernel
theorem d_D_trapped_25 : decode c_D_trapped 25 = .ok (.return_, 1) := by decide +kernel
theorem d_D_trapped_26 : decode c_D_trapped 26 = .ok (.aload_n 0, 1) := by decide +kernel
theorem d_D_trapped_27 : decode c_D_trapped 27 = .ok (.iconst 0, 1) := by decide +kernel
theorem d_D_trapped_28 : decode c_D_trapped 28 = .ok (.putfield 274, 3) := by decide +kernel
theorem d_D_trapped_31 : decode c_D_trapped 31 = .ok (.aload_n 0, 1) := by decide +kernel
theorem d_D_trapped_32 : decode c_D_trapped 32 = .ok (.aload_n 0, 1) := by decide +kernel
theorem d_D_trapped_33 : decode c_D_trapped 33 = .ok (.getfield 268, 3) := by decide +kernel
theorem d_D_trapped_36 : decode c_D_trapped 36 = .ok (.putfield 271, 3) := by decide +kernel
theorem d_D_trapped_39 : decode c_D_trapped 39 = .ok (.aload_n 0, 1) := by decide +kernel
theorem d_D_trapped_40 : decode c_D_trapped 40 = .ok (.iconst 1, 1) := by decide +kernel
theorem d_D_trapped_41 : decode c_D_trapped 41 = .ok (.putfield 268, 3) := by decide +kernel
theorem d_D_trapped_44 : decode c_D_trapped 44 = .ok (.aload_n 0, 1) := by decide +kernel
theorem d_D_trapped_45 : decode c_D_trapped 45 = .ok (.aload_n 0, 1) := by decide +kernel
theorem d_D_trapped_46 : decode c_D_trapped 46 = .ok (.getfield 237, 3) := by decide +kernel
theorem d_D_trapped_49 : decode c_D_trapped 49 = .ok (.iconst 3, 1) := by decide +kernel
theorem d_D_trapped_50 : decode c_D_trapped 50 = .ok (.iadd, 1) := by decide +kernel
theorem d_D_trapped_51 : decode c_D_trapped 51 = .ok (.iconst 3, 1) := by decide +kernel
theorem d_D_trapped_52 : decode c_D_trapped 52 = .ok (.iand, 1) := by decide +kernel
theorem d_D_trapped_53 : decode c_D_trapped 53 = .ok (.putfield 237, 3) := by decide +kernel
theorem d_D_trapped_56 : decode c_D_trapped 56 = .ok (.aload_n 0, 1) := by decide +kernel
theorem d_D_trapped_57 : decode c_D_trapped 57 = .ok (.getfield 218, 3) := by decide +kernel
theorem d_D_trapped_60 : decode c_D_trapped 60 = .ok (.bipush 8, 2) := by decide +kernel
theorem d_D_trapped_62 : decode c_D_trapped 62 = .ok (.aload_n 0, 1) := by decide +kernel
theorem d_D_trapped_63 : decode c_D_trapped 63 = .ok (.getfield 237, 3) := by decide +kernel
theorem d_D_trapped_66 : decode c_D_trapped 66 = .ok (.imul, 1) := by decide +kernel
theorem d_D_trapped_67 : decode c_D_trapped 67 = .ok (.iconst 1, 1) := by decide +kernel
theorem d_D_trapped_68 : decode c_D_trapped 68 = .ok (.iadd, 1) := by decide +kernel
theorem d_D_trapped_69 : decode c_D_trapped 69 = .ok (.aload_n 0, 1) := by decide +kernel
theorem d_D_trapped_70 : decode c_D_trapped 70 = .ok (.getfield 231, 3) := by decide +kernel
theorem d_D_trapped_73 : decode c_D_trapped 73 = .ok (.iastore, 1) := by decide +kernel
theorem d_D_trapped_74 : decode c_D_trapped 74 = .ok (.aload_n 0, 1) := by decide +kernel
theorem d_D_trapped_75 : decode c_D_trapped 75 = .ok (.getfield 218, 3) := by decide +kernel
theorem d_D_trapped_78 : decode c_D_trapped 78 = .ok (.bipush 8, 2) := by decide +kernel
theorem d_D_trapped_80 : decode c_D_trapped 80 = .ok (.aload_n 0, 1) := by decide +kernel
theorem d_D_trapped_81 : decode c_D_trapped 81 = .ok (.getfield 237, 3) := by decide +kernel
theorem d_D_trapped_84 : decode c_D_trapped 84 = .ok (.imul, 1) := by decide +kernel
theorem d_D_trapped_85 : decode c_D_trapped 85 = .ok (.iconst 2, 1) := by decide +kernel
theorem d_D_trapped_86 : decode c_D_trapped 86 = .ok (.iadd, 1) := by decide +kernel
theorem d_D_trapped_87 : decode c_D_trapped 87 = .ok (.aload_n 0, 1) := by decide +kernel
theorem d_D_trapped_88 : decode c_D_trapped 88 = .ok (.getfield 234, 3) := by decide +kernel
theorem d_D_trapped_91 : decode c_D_trapped 91 = .ok (.iastore, 1) := by decide +kernel
theorem d_D_trapped_92 : decode c_D_trapped 92 = .ok (.aload_n 0, 1) := by decide +kernel
theorem d_D_trapped_93 : decode c_D_trapped 93 = .ok (.aload_n 0, 1) := by decide +kernel
theorem d_D_trapped_94 : decode c_D_trapped 94 = .ok (.getfield 246, 3) := by decide +kernel
theorem d_D_trapped_97 : decode c_D_trapped 97 = .ok (.bipush 16, 2) := by decide +kernel
theorem d_D_trapped_99 : decode c_D_trapped 99 = .ok (.aload_n 0, 1) := by decide +kernel
theorem d_D_trapped_100 : decode c_D_trapped 100 = .ok (.getfield 312, 3) := by decide +kernel
theorem d_D_trapped_103 : decode c_D_trapped 103 = .ok (.imul, 1) := by decide +kernel
theorem d_D_trapped_104 : decode c_D_trapped 104 = .ok (.iadd, 1) := by decide +kernel
theorem d_D_trapped_105 : decode c_D_trapped 105 = .ok (.putfield 231, 3) := by decide +kernel
theorem d_D_trapped_108 : decode c_D_trapped 108 = .ok (.aload_n 0, 1) := by decide +kernel
theorem d_D_trapped_109 : decode c_D_trapped 109 = .ok (.aload_n 0, 1) := by decide +kernel
theorem d_D_trapped_110 : decode c_D_trapped 110 = .ok (.getfield 231, 3) := by decide +kernel
theorem d_D_trapped_113 : decode c_D_trapped 113 = .ok (.iconst 4, 1) := by decide +kernel
theorem d_D_trapped_114 : decode c_D_trapped 114 = .ok (.iadd, 1) := by decide +kernel
theorem d_D_trapped_115 : decode c_D_trapped 115 = .ok (.putfield 234, 3) := by decide +kernel
theorem d_D_trapped_118 : decode c_D_trapped 118 = .ok (.aload_n 0, 1) := by decide +kernel
theorem d_D_trapped_119 : decode c_D_trapped 119 = .ok (.iconst 0, 1) := by decide +kernel
theorem d_D_trapped_120 : decode c_D_trapped 120 = .ok (.putfield 277, 3) := by decide +kernel
theorem d_D_trapped_123 : decode c_D_trapped 123 = .ok (.return_, 1) := by decide +kernel
theorem kd_D_trapped : (y_D_trapped).cls = "WindowMachineModel" ∧ (y_D_trapped).cls ≠ "java/lang/invoke/MethodHandle" ∧ (y_D_trapped).cls ≠ "java/lang/invoke/VarHandle" ∧ (parseMethodDescriptor (y_D_trapped).desc).map (fun d => d.parameters.length) = some 0 := by decide +kernel
def m_trapped (st : SD) : SD := (if (st.1 19) = (0 : Int32) then (upd (upd st.1 12 ((st.1 12) + (1 : Int32))) 10 (st.1 21), st.2.1, st.2.2.1, st.2.2.2.1, st.2.2.2.2.1, st.2.2.2.2.2) else (upd (upd (upd (upd (upd (upd (upd (upd st.1 12 ((st.1 12) + (1 : Int32))) 19 (0 : Int32)) 18 (st.1 17)) 17 (1 : Int32)) 6 (((st.1 6) + (3 : Int32)) &&& (3 : Int32))) 4 ((st.1 9) + ((16 : Int32) * (st.1 21)))) 5 (((st.1 9) + ((16 : Int32) * (st.1 21))) + (4 : Int32))) 20 (0 : Int32), st.2.1, st.2.2.1, st.2.2.2.1, st.2.2.2.2.1, upd (upd st.2.2.2.2.2 (((8 : Int32) * (((st.1 6) + (3 : Int32)) &&& (3 : Int32))) + (1 : Int32)).toNatClampNeg (st.1 4)) (((8 : Int32) * (((st.1 6) + (3 : Int32)) &&& (3 : Int32))) + (2 : Int32)).toNatClampNeg (st.1 5)))
set_option maxHeartbeats 4000000 in
set_option maxRecDepth 100000 in
theorem mt_D_trapped (l : Launch) (D : va_G) (h : Nat → Nat) (c : Nat → ClassId) (sz : Nat) (st : SD) (hV : okV st) : Met l y_D_trapped w_D_trapped ({ frames := 0, cells := 0, slots := 0, locals := 0 }) (va_Pc [.ref (h 20)] (zw_pre D vwCl [(c 21, .long), (c 22, .int), (c 23, .int), (c 24, .int), (c 25, .int), (c 26, .int), (c 27, .int), (c 28, .int)] sz (wD h c st) (fun _ => True))) (va_Qv (fun (u : SD) => u = m_trapped st) (fun u t => zw_at D vwCl (va_A (wD h c st) sz) ((fun (u : SD) => wD h c u) u) t) (va_A (wD h c st) sz)) 0 0 (va_A (wD h c st) sz) := by
  refine zm (Qf := fun A => va_Qv (fun (u : SD) => u = m_trapped st) (fun u t => zw_at D vwCl A ((fun (u : SD) => wD h c u) u) t) A) (Zf := fun _ _ => True) (cc := c_D_trapped) (nL := 1) (ret := none) (by decide) rfl (Nat.le_of_ble_eq_true rfl) ?_
  intro p e s m below meth c9 A H locs ls hx hb hml hown hts hr hlocks hA hK hP hD hS hZ hl
  have hl : lv_has ls 1 [(0, .ref (h 20))] := hl
  have ht : ∀ w9 ∈ zT, w9.before _ s = true := fun w9 h9 => hts w9 (List.mem_cons_of_mem _ h9)
  refine lv_aload_n hx hb d_D_trapped_0 rfl (lv_at hl 0 rfl) ?_
  refine lv_dup hx hb d_D_trapped_1 rfl ?_
  refine va_get (D := D) (ci := 6) (v := .int (st.1 12)) (C := "WindowMachineModel") (T := T_D) (N := 31) hx hb ht zi_D hown hK hP 0 rfl rfl 20 (by decide) (ht _ zw_874) (fun _ h9 => h9) rfl d_D_trapped_2 ?_
  refine lv_iconst (v := (1 : Int32)) hx hb d_D_trapped_5 (by decide) ?_
  refine lv_iadd hx hb d_D_trapped_6 ?_
  refine va_put (D := D) (ci := 6) (v := .int ((st.1 12) + (1 : Int32))) (ty := .int) (C := "WindowMachineModel") (T := T_D) (N := 31) hx hb ht zi_D ty_D tyok_D nm_D hown hK hP hD hS 0 rfl rfl 20 (by decide) (ht _ zw_874) (fun _ h9 => h9) rfl (by decide +kernel) rfl rfl (Nat.le_of_ble_eq_true rfl) d_D_trapped_7 (fun H locs hP hD hS => ?_)
  have hP : va_P D vwCl (wD h c (upd st.1 12 ((st.1 12) + (1 : Int32)), st.2.1, st.2.2.1, st.2.2.2.1, st.2.2.2.2.1, st.2.2.2.2.2)) H := hP
  have hD : va_D A (wD h c (upd st.1 12 ((st.1 12) + (1 : Int32)), st.2.1, st.2.2.1, st.2.2.2.1, st.2.2.2.2.1, st.2.2.2.2.2)) := hD
  refine lv_aload_n hx hb d_D_trapped_10 rfl (lv_at hl 0 rfl) ?_
  refine va_get (D := D) (ci := 6) (v := .int (st.1 19)) (C := "WindowMachineModel") (T := T_D) (N := 31) hx hb ht zi_D hown hK hP 0 rfl rfl 27 (by decide) (ht _ zw_881) (fun _ h9 => h9) rfl d_D_trapped_11 ?_
  refine lv_if_ne (tgt := 26) hx hb d_D_trapped_14 (by decide) (fun c_1 => ?_) (fun c_1 => ?_)
  · refine lv_aload_n hx hb d_D_trapped_26 rfl (lv_at hl 0 rfl) ?_
    refine lv_iconst (v := (0 : Int32)) hx hb d_D_trapped_27 (by decide) ?_
    refine va_put (D := D) (ci := 6) (v := .int (0 : Int32)) (ty := .boolean) (C := "WindowMachineModel") (T := T_D) (N := 31) hx hb ht zi_D ty_D tyok_D nm_D hown hK hP hD hS 0 rfl rfl 27 (by decide) (ht _ zw_881) (fun _ h9 => h9) rfl (by decide +kernel) rfl rfl (Nat.le_of_ble_eq_true rfl) d_D_trapped_28 (fun H locs hP hD hS => ?_)
    have hP : va_P D vwCl (wD h c (upd (upd st.1 12 ((st.1 12) + (1 : Int32))) 19 (0 : Int32), st.2.1, st.2.2.1, st.2.2.2.1, st.2.2.2.2.1, st.2.2.2.2.2)) H := hP
    have hD : va_D A (wD h c (upd (upd st.1 12 ((st.1 12) + (1 : Int32))) 19 (0 : Int32), st.2.1, st.2.2.1, st.2.2.2.1, st.2.2.2.2.1, st.2.2.2.2.2)) := hD
    refine lv_aload_n hx hb d_D_trapped_31 rfl (lv_at hl 0 rfl) ?_
    refine lv_aload_n hx hb d_D_trapped_32 rfl (lv_at hl 0 rfl) ?_
    refine va_get (D := D) (ci := 6) (v := .int (st.1 17)) (C := "WindowMachineModel") (T := T_D) (N := 31) hx hb ht zi_D hown hK hP 0 rfl rfl 25 (by decide) (ht _ zw_879) (fun _ h9 => h9) rfl d_D_trapped_33 ?_
    refine va_put (D := D) (ci := 6) (v := .int (st.1 17)) (ty := .boolean) (C := "WindowMachineModel") (T := T_D) (N := 31) hx hb ht zi_D ty_D tyok_D nm_D hown hK hP hD hS 0 rfl rfl 26 (by decide) (ht _ zw_880) (fun _ h9 => h9) rfl (by decide +kernel) (hV.2.1).n (hV.2.1).f (Nat.le_of_ble_eq_true rfl) d_D_trapped_36 (fun H locs hP hD hS => ?_)
    have hP : va_P D vwCl (wD h c (upd (upd (upd st.1 12 ((st.1 12) + (1 : Int32))) 19 (0 : Int32)) 18 (st.1 17), st.2.1, st.2.2.1, st.2.2.2.1, st.2.2.2.2.1, st.2.2.2.2.2)) H := hP
    have hD : va_D A (wD h c (upd (upd (upd st.1 12 ((st.1 12) + (1 : Int32))) 19 (0 : Int32)) 18 (st.1 17), st.2.1, st.2.2.1, st.2.2.2.1, st.2.2.2.2.1, st.2.2.2.2.2)) := hD
    refine lv_aload_n hx hb d_D_trapped_39 rfl (lv_at hl 0 rfl) ?_
    refine lv_iconst (v := (1 : Int32)) hx hb d_D_trapped_40 (by decide) ?_
    refine va_put (D := D) (ci := 6) (v := .int (1 : Int32)) (ty := .boolean) (C := "WindowMachineModel") (T := T_D) (N := 31) hx hb ht zi_D ty_D tyok_D nm_D hown hK hP hD hS 0 rfl rfl 25 (by decide) (ht _ zw_879) (fun _ h9 => h9) rfl (by decide +kernel) rfl rfl (Nat.le_of_ble_eq_true rfl) d_D_trapped_41 (fun H locs hP hD hS => ?_)
    have hP : va_P D vwCl (wD h c (upd (upd (upd (upd st.1 12 ((st.1 12) + (1 : Int32))) 19 (0 : Int32)) 18 (st.1 17)) 17 (1 : Int32), st.2.1, st.2.2.1, st.2.2.2.1, st.2.2.2.2.1, st.2.2.2.2.2)) H := hP
    have hD : va_D A (wD h c (upd (upd (upd (upd st.1 12 ((st.1 12) + (1 : Int32))) 19 (0 : Int32)) 18 (st.1 17)) 17 (1 : Int32), st.2.1, st.2.2.1, st.2.2.2.1, st.2.2.2.2.1, st.2.2.2.2.2)) := hD
    refine lv_aload_n hx hb d_D_trapped_44 rfl (lv_at hl 0 rfl) ?_
    refine lv_aload_n hx hb d_D_trapped_45 rfl (lv_at hl 0 rfl) ?_
    refine va_get (D := D) (ci := 6) (v := .int (st.1 6)) (C := "WindowMachineModel") (T := T_D) (N := 31) hx hb ht zi_D hown hK hP 0 rfl rfl 14 (by decide) (ht _ zw_868) (fun _ h9 => h9) rfl d_D_trapped_46 ?_
    refine lv_iconst (v := (3 : Int32)) hx hb d_D_trapped_49 (by decide) ?_
    refine lv_iadd hx hb d_D_trapped_50 ?_
    refine lv_iconst (v := (3 : Int32)) hx hb d_D_trapped_51 (by decide) ?_
    refine lv_iand hx hb d_D_trapped_52 ?_
    refine va_put (D := D) (ci := 6) (v := .int (((st.1 6) + (3 : Int32)) &&& (3 : Int32))) (ty := .int) (C := "WindowMachineModel") (T := T_D) (N := 31) hx hb ht zi_D ty_D tyok_D nm_D hown hK hP hD hS 0 rfl rfl 14 (by decide) (ht _ zw_868) (fun _ h9 => h9) rfl (by decide +kernel) rfl rfl (Nat.le_of_ble_eq_true rfl) d_D_trapped_53 (fun H locs hP hD hS => ?_)
    have hP : va_P D vwCl (wD h c (upd (upd (upd (upd (upd st.1 12 ((st.1 12) + (1 : Int32))) 19 (0 : Int32)) 18 (st.1 17)) 17 (1 : Int32)) 6 (((st.1 6) + (3 : Int32)) &&& (3 : Int32)), st.2.1, st.2.2.1, st.2.2.2.1, st.2.2.2.2.1, st.2.2.2.2.2)) H := hP
    have hD : va_D A (wD h c (upd (upd (upd (upd (upd st.1 12 ((st.1 12) + (1 : Int32))) 19 (0 : Int32)) 18 (st.1 17)) 17 (1 : Int32)) 6 (((st.1 6) + (3 : Int32)) &&& (3 : Int32)), st.2.1, st.2.2.1, st.2.2.2.1, st.2.2.2.2.1, st.2.2.2.2.2)) := hD
    refine lv_aload_n hx hb d_D_trapped_56 rfl (lv_at hl 0 rfl) ?_
    refine va_get (D := D) (ci := 6) (v := .ref (h 28)) (C := "WindowMachineModel") (T := T_D) (N := 31) hx hb ht zi_D hown hK hP 0 rfl rfl 11 (by decide) (ht _ zw_865) (fun _ h9 => h9) rfl d_D_trapped_57 ?_
    refine lv_bipush (v := (8 : Int32)) hx hb d_D_trapped_60 (by decide) ?_
    refine lv_aload_n hx hb d_D_trapped_62 rfl (lv_at hl 0 rfl) ?_
    refine va_get (D := D) (ci := 6) (v := .int (((st.1 6) + (3 : Int32)) &&& (3 : Int32))) (C := "WindowMachineModel") (T := T_D) (N := 31) hx hb ht zi_D hown hK hP 0 rfl rfl 14 (by decide) (ht _ zw_868) (fun _ h9 => h9) rfl d_D_trapped_63 ?_
    refine lv_imul hx hb d_D_trapped_66 ?_
    refine lv_iconst (v := (1 : Int32)) hx hb d_D_trapped_67 (by decide) ?_
    refine lv_iadd hx hb d_D_trapped_68 ?_
    refine lv_aload_n hx hb d_D_trapped_69 rfl (lv_at hl 0 rfl) ?_
    refine va_get (D := D) (ci := 6) (v := .int (st.1 4)) (C := "WindowMachineModel") (T := T_D) (N := 31) hx hb ht zi_D hown hK hP 0 rfl rfl 12 (by decide) (ht _ zw_866) (fun _ h9 => h9) rfl d_D_trapped_70 ?_
    refine va_iast hx hb hK hP hD hS 8 7 rfl rfl (tl_in1 _) d_D_trapped_73 (fun H locs hP hD hS => ?_)
    have hP : va_P D vwCl (wD h c (upd (upd (upd (upd (upd st.1 12 ((st.1 12) + (1 : Int32))) 19 (0 : Int32)) 18 (st.1 17)) 17 (1 : Int32)) 6 (((st.1 6) + (3 : Int32)) &&& (3 : Int32)), st.2.1, st.2.2.1, st.2.2.2.1, st.2.2.2.2.1, upd st.2.2.2.2.2 (((8 : Int32) * (((st.1 6) + (3 : Int32)) &&& (3 : Int32))) + (1 : Int32)).toNatClampNeg (st.1 4))) H := hP
    have hD : va_D A (wD h c (upd (upd (upd (upd (upd st.1 12 ((st.1 12) + (1 : Int32))) 19 (0 : Int32)) 18 (st.1 17)) 17 (1 : Int32)) 6 (((st.1 6) + (3 : Int32)) &&& (3 : Int32)), st.2.1, st.2.2.1, st.2.2.2.1, st.2.2.2.2.1, upd st.2.2.2.2.2 (((8 : Int32) * (((st.1 6) + (3 : Int32)) &&& (3 : Int32))) + (1 : Int32)).toNatClampNeg (st.1 4))) := hD
    refine lv_aload_n hx hb d_D_trapped_74 rfl (lv_at hl 0 rfl) ?_
    refine va_get (D := D) (ci := 6) (v := .ref (h 28)) (C := "WindowMachineModel") (T := T_D) (N := 31) hx hb ht zi_D hown hK hP 0 rfl rfl 11 (by decide) (ht _ zw_865) (fun _ h9 => h9) rfl d_D_trapped_75 ?_
    refine lv_bipush (v := (8 : Int32)) hx hb d_D_trapped_78 (by decide) ?_
    refine lv_aload_n hx hb d_D_trapped_80 rfl (lv_at hl 0 rfl) ?_
    refine va_get (D := D) (ci := 6) (v := .int (((st.1 6) + (3 : Int32)) &&& (3 : Int32))) (C := "WindowMachineModel") (T := T_D) (N := 31) hx hb ht zi_D hown hK hP 0 rfl rfl 14 (by decide) (ht _ zw_868) (fun _ h9 => h9) rfl d_D_trapped_81 ?_
    refine lv_imul hx hb d_D_trapped_84 ?_
    refine lv_iconst (v := (2 : Int32)) hx hb d_D_trapped_85 (by decide) ?_
    refine lv_iadd hx hb d_D_trapped_86 ?_
    refine lv_aload_n hx hb d_D_trapped_87 rfl (lv_at hl 0 rfl) ?_
    refine va_get (D := D) (ci := 6) (v := .int (st.1 5)) (C := "WindowMachineModel") (T := T_D) (N := 31) hx hb ht zi_D hown hK hP 0 rfl rfl 13 (by decide) (ht _ zw_867) (fun _ h9 => h9) rfl d_D_trapped_88 ?_
    refine va_iast hx hb hK hP hD hS 8 7 rfl rfl (tl_in2 _) d_D_trapped_91 (fun H locs hP hD hS => ?_)
    have hP : va_P D vwCl (wD h c (upd (upd (upd (upd (upd st.1 12 ((st.1 12) + (1 : Int32))) 19 (0 : Int32)) 18 (st.1 17)) 17 (1 : Int32)) 6 (((st.1 6) + (3 : Int32)) &&& (3 : Int32)), st.2.1, st.2.2.1, st.2.2.2.1, st.2.2.2.2.1, upd (upd st.2.2.2.2.2 (((8 : Int32) * (((st.1 6) + (3 : Int32)) &&& (3 : Int32))) + (1 : Int32)).toNatClampNeg (st.1 4)) (((8 : Int32) * (((st.1 6) + (3 : Int32)) &&& (3 : Int32))) + (2 : Int32)).toNatClampNeg (st.1 5))) H := hP
    have hD : va_D A (wD h c (upd (upd (upd (upd (upd st.1 12 ((st.1 12) + (1 : Int32))) 19 (0 : Int32)) 18 (st.1 17)) 17 (1 : Int32)) 6 (((st.1 6) + (3 : Int32)) &&& (3 : Int32)), st.2.1, st.2.2.1, st.2.2.2.1, st.2.2.2.2.1, upd (upd st.2.2.2.2.2 (((8 : Int32) * (((st.1 6) + (3 : Int32)) &&& (3 : Int32))) + (1 : Int32)).toNatClampNeg (st.1 4)) (((8 : Int32) * (((st.1 6) + (3 : Int32)) &&& (3 : Int32))) + (2 : Int32)).toNatClampNeg (st.1 5))) := hD
    refine lv_aload_n hx hb d_D_trapped_92 rfl (lv_at hl 0 rfl) ?_
    refine lv_aload_n hx hb d_D_trapped_93 rfl (lv_at hl 0 rfl) ?_
    refine va_get (D := D) (ci := 6) (v := .int (st.1 9)) (C := "WindowMachineModel") (T := T_D) (N := 31) hx hb ht zi_D hown hK hP 0 rfl rfl 17 (by decide) (ht _ zw_871) (fun _ h9 => h9) rfl d_D_trapped_94 ?_
    refine lv_bipush (v := (16 : Int32)) hx hb d_D_trapped_97 (by decide) ?_
    refine lv_aload_n hx hb d_D_trapped_99 rfl (lv_at hl 0 rfl) ?_
    refine va_get (D := D) (ci := 6) (v := .int (st.1 21)) (C := "WindowMachineModel") (T := T_D) (N := 31) hx hb ht zi_D hown hK hP 0 rfl rfl 29 (by decide) (ht _ zw_883) (fun _ h9 => h9) rfl d_D_trapped_100 ?_
    refine lv_imul hx hb d_D_trapped_103 ?_
    refine lv_iadd hx hb d_D_trapped_104 ?_
    refine va_put (D := D) (ci := 6) (v := .int ((st.1 9) + ((16 : Int32) * (st.1 21)))) (ty := .int) (C := "WindowMachineModel") (T := T_D) (N := 31) hx hb ht zi_D ty_D tyok_D nm_D hown hK hP hD hS 0 rfl rfl 12 (by decide) (ht _ zw_866) (fun _ h9 => h9) rfl (by decide +kernel) rfl rfl (Nat.le_of_ble_eq_true rfl) d_D_trapped_105 (fun H locs hP hD hS => ?_)
    have hP : va_P D vwCl (wD h c (upd (upd (upd (upd (upd (upd st.1 12 ((st.1 12) + (1 : Int32))) 19 (0 : Int32)) 18 (st.1 17)) 17 (1 : Int32)) 6 (((st.1 6) + (3 : Int32)) &&& (3 : Int32))) 4 ((st.1 9) + ((16 : Int32) * (st.1 21))), st.2.1, st.2.2.1, st.2.2.2.1, st.2.2.2.2.1, upd (upd st.2.2.2.2.2 (((8 : Int32) * (((st.1 6) + (3 : Int32)) &&& (3 : Int32))) + (1 : Int32)).toNatClampNeg (st.1 4)) (((8 : Int32) * (((st.1 6) + (3 : Int32)) &&& (3 : Int32))) + (2 : Int32)).toNatClampNeg (st.1 5))) H := hP
    have hD : va_D A (wD h c (upd (upd (upd (upd (upd (upd st.1 12 ((st.1 12) + (1 : Int32))) 19 (0 : Int32)) 18 (st.1 17)) 17 (1 : Int32)) 6 (((st.1 6) + (3 : Int32)) &&& (3 : Int32))) 4 ((st.1 9) + ((16 : Int32) * (st.1 21))), st.2.1, st.2.2.1, st.2.2.2.1, st.2.2.2.2.1, upd (upd st.2.2.2.2.2 (((8 : Int32) * (((st.1 6) + (3 : Int32)) &&& (3 : Int32))) + (1 : Int32)).toNatClampNeg (st.1 4)) (((8 : Int32) * (((st.1 6) + (3 : Int32)) &&& (3 : Int32))) + (2 : Int32)).toNatClampNeg (st.1 5))) := hD
    refine lv_aload_n hx hb d_D_trapped_108 rfl (lv_at hl 0 rfl) ?_
    refine lv_aload_n hx hb d_D_trapped_109 rfl (lv_at hl 0 rfl) ?_
    refine va_get (D := D) (ci := 6) (v := .int ((st.1 9) + ((16 : Int32) * (st.1 21)))) (C := "WindowMachineModel") (T := T_D) (N := 31) hx hb ht zi_D hown hK hP 0 rfl rfl 12 (by decide) (ht _ zw_866) (fun _ h9 => h9) rfl d_D_trapped_110 ?_
    refine lv_iconst (v := (4 : Int32)) hx hb d_D_trapped_113 (by decide) ?_
    refine lv_iadd hx hb d_D_trapped_114 ?_
    refine va_put (D := D) (ci := 6) (v := .int (((st.1 9) + ((16 : Int32) * (st.1 21))) + (4 : Int32))) (ty := .int) (C := "WindowMachineModel") (T := T_D) (N := 31) hx hb ht zi_D ty_D tyok_D nm_D hown hK hP hD hS 0 rfl rfl 13 (by decide) (ht _ zw_867) (fun _ h9 => h9) rfl (by decide +kernel) rfl rfl (Nat.le_of_ble_eq_true rfl) d_D_trapped_115 (fun H locs hP hD hS => ?_)
    have hP : va_P D vwCl (wD h c (upd (upd (upd (upd (upd (upd (upd st.1 12 ((st.1 12) + (1 : Int32))) 19 (0 : Int32)) 18 (st.1 17)) 17 (1 : Int32)) 6 (((st.1 6) + (3 : Int32)) &&& (3 : Int32))) 4 ((st.1 9) + ((16 : Int32) * (st.1 21)))) 5 (((st.1 9) + ((16 : Int32) * (st.1 21))) + (4 : Int32)), st.2.1, st.2.2.1, st.2.2.2.1, st.2.2.2.2.1, upd (upd st.2.2.2.2.2 (((8 : Int32) * (((st.1 6) + (3 : Int32)) &&& (3 : Int32))) + (1 : Int32)).toNatClampNeg (st.1 4)) (((8 : Int32) * (((st.1 6) + (3 : Int32)) &&& (3 : Int32))) + (2 : Int32)).toNatClampNeg (st.1 5))) H := hP
    have hD : va_D A (wD h c (upd (upd (upd (upd (upd (upd (upd st.1 12 ((st.1 12) + (1 : Int32))) 19 (0 : Int32)) 18 (st.1 17)) 17 (1 : Int32)) 6 (((st.1 6) + (3 : Int32)) &&& (3 : Int32))) 4 ((st.1 9) + ((16 : Int32) * (st.1 21)))) 5 (((st.1 9) + ((16 : Int32) * (st.1 21))) + (4 : Int32)), st.2.1, st.2.2.1, st.2.2.2.1, st.2.2.2.2.1, upd (upd st.2.2.2.2.2 (((8 : Int32) * (((st.1 6) + (3 : Int32)) &&& (3 : Int32))) + (1 : Int32)).toNatClampNeg (st.1 4)) (((8 : Int32) * (((st.1 6) + (3 : Int32)) &&& (3 : Int32))) + (2 : Int32)).toNatClampNeg (st.1 5))) := hD
    refine lv_aload_n hx hb d_D_trapped_118 rfl (lv_at hl 0 rfl) ?_
    refine lv_iconst (v := (0 : Int32)) hx hb d_D_trapped_119 (by decide) ?_
    refine va_put (D := D) (ci := 6) (v := .int (0 : Int32)) (ty := .boolean) (C := "WindowMachineModel") (T := T_D) (N := 31) hx hb ht zi_D ty_D tyok_D nm_D hown hK hP hD hS 0 rfl rfl 28 (by decide) (ht _ zw_882) (fun _ h9 => h9) rfl (by decide +kernel) rfl rfl (Nat.le_of_ble_eq_true rfl) d_D_trapped_120 (fun H locs hP hD hS => ?_)
    have hP : va_P D vwCl (wD h c (upd (upd (upd (upd (upd (upd (upd (upd st.1 12 ((st.1 12) + (1 : Int32))) 19 (0 : Int32)) 18 (st.1 17)) 17 (1 : Int32)) 6 (((st.1 6) + (3 : Int32)) &&& (3 : Int32))) 4 ((st.1 9) + ((16 : Int32) * (st.1 21)))) 5 (((st.1 9) + ((16 : Int32) * (st.1 21))) + (4 : Int32))) 20 (0 : Int32), st.2.1, st.2.2.1, st.2.2.2.1, st.2.2.2.2.1, upd (upd st.2.2.2.2.2 (((8 : Int32) * (((st.1 6) + (3 : Int32)) &&& (3 : Int32))) + (1 : Int32)).toNatClampNeg (st.1 4)) (((8 : Int32) * (((st.1 6) + (3 : Int32)) &&& (3 : Int32))) + (2 : Int32)).toNatClampNeg (st.1 5))) H := hP
    have hD : va_D A (wD h c (upd (upd (upd (upd (upd (upd (upd (upd st.1 12 ((st.1 12) + (1 : Int32))) 19 (0 : Int32)) 18 (st.1 17)) 17 (1 : Int32)) 6 (((st.1 6) + (3 : Int32)) &&& (3 : Int32))) 4 ((st.1 9) + ((16 : Int32) * (st.1 21)))) 5 (((st.1 9) + ((16 : Int32) * (st.1 21))) + (4 : Int32))) 20 (0 : Int32), st.2.1, st.2.2.1, st.2.2.2.1, st.2.2.2.2.1, upd (upd st.2.2.2.2.2 (((8 : Int32) * (((st.1 6) + (3 : Int32)) &&& (3 : Int32))) + (1 : Int32)).toNatClampNeg (st.1 4)) (((8 : Int32) * (((st.1 6) + (3 : Int32)) &&& (3 : Int32))) + (2 : Int32)).toNatClampNeg (st.1 5))) := hD
    exact zl_v (u := (upd (upd (upd (upd (upd (upd (upd (upd st.1 12 ((st.1 12) + (1 : Int32))) 19 (0 : Int32)) 18 (st.1 17)) 17 (1 : Int32)) 6 (((st.1 6) + (3 : Int32)) &&& (3 : Int32))) 4 ((st.1 9) + ((16 : Int32) * (st.1 21)))) 5 (((st.1 9) + ((16 : Int32) * (st.1 21))) + (4 : Int32))) 20 (0 : Int32), st.2.1, st.2.2.1, st.2.2.2.1, st.2.2.2.2.1, upd (upd st.2.2.2.2.2 (((8 : Int32) * (((st.1 6) + (3 : Int32)) &&& (3 : Int32))) + (1 : Int32)).toNatClampNeg (st.1 4)) (((8 : Int32) * (((st.1 6) + (3 : Int32)) &&& (3 : Int32))) + (2 : Int32)).toNatClampNeg (st.1 5))) hx hb hr hlocks hS hP hD (by simp only [m_trapped, if_neg c_1]) d_D_trapped_123
  refine lv_aload_n hx hb d_D_trapped_17 rfl (lv_at hl 0 rfl) ?_
  refine lv_aload_n hx hb d_D_trapped_18 rfl (lv_at hl 0 rfl) ?_
  refine va_get (D := D) (ci := 6) (v := .int (st.1 21)) (C := "WindowMachineModel") (T := T_D) (N := 31) hx hb ht zi_D hown hK hP 0 rfl rfl 29 (by decide) (ht _ zw_883) (fun _ h9 => h9) rfl d_D_trapped_19 ?_
  refine va_put (D := D) (ci := 6) (v := .int (st.1 21)) (ty := .int) (C := "WindowMachineModel") (T := T_D) (N := 31) hx hb ht zi_D ty_D tyok_D nm_D hown hK hP hD hS 0 rfl rfl 18 (by decide) (ht _ zw_872) (fun _ h9 => h9) rfl (by decide +kernel) rfl rfl (Nat.le_of_ble_eq_true rfl) d_D_trapped_22 (fun H locs hP hD hS => ?_)
  have hP : va_P D vwCl (wD h c (upd (upd st.1 12 ((st.1 12) + (1 : Int32))) 10 (st.1 21), st.2.1, st.2.2.1, st.2.2.2.1, st.2.2.2.2.1, st.2.2.2.2.2)) H := hP
  have hD : va_D A (wD h c (upd (upd st.1 12 ((st.1 12) + (1 : Int32))) 10 (st.1 21), st.2.1, st.2.2.1, st.2.2.2.1, st.2.2.2.2.1, st.2.2.2.2.2)) := hD
  exact zl_v (u := (upd (upd st.1 12 ((st.1 12) + (1 : Int32))) 10 (st.1 21), st.2.1, st.2.2.1, st.2.2.2.1, st.2.2.2.2.1, st.2.2.2.2.2)) hx hb hr hlocks hS hP hD (by simp only [m_trapped, if_pos c_1]) d_D_trapped_25
theorem d_D_reset_0 : decode c_D_reset 0 = .ok (.iconst 0, 1) := by decide +kernel
theorem d_D_reset_1 : decode c_D_reset 1 = .ok (.istore_n 2, 1) := by decide +kernel
theorem d_D_reset_2 : decode c_D_reset 2 = .ok (.iload_n 2, 1) := by decide +kernel
theorem d_D_reset_3 : decode c_D_reset 3 = .ok (.bipush 8, 2) := by decide +kernel
theorem d_D_reset_5 : decode c_D_reset 5 = .ok (.if_icmp .ge 16, 3) := by decide +kernel
theorem d_D_reset_8 : decode c_D_reset 8 = .ok (.aload_n 0, 1) := by decide +kernel
theorem d_D_reset_9 : decode c_D_reset 9 = .ok (.getfield 212, 3) := by decide +kernel
theorem d_D_reset_12 : decode c_D_reset 12 = .ok (.iload_n 2, 1) := by decide +kernel
theorem d_D_reset_13 : decode c_D_reset 13 = .ok (.iconst 0, 1) := by decide +kernel
theorem d_D_reset_14 : decode c_D_reset 14 = .ok (.iastore, 1) := by decide +kernel
theorem d_D_reset_15 : decode c_D_reset 15 = .ok (.iinc 2 1, 3) := by decide +kernel
theorem d_D_reset_18 : decode c_D_reset 18 = .ok (.goto (-16), 3) := by decide +kernel
theorem d_D_reset_21 : decode c_D_reset 21 = .ok (.iconst 0, 1) := by decide +kernel
theorem d_D_reset_22 : decode c_D_reset 22 = .ok (.istore_n 2, 1) := by decide +kernel
theorem d_D_reset_23 : decode c_D_reset 23 = .ok (.iload_n 2, 1) := by decide +kernel
theorem d_D_reset_24 : decode c_D_reset 24 = .ok (.bipush 32, 2) := by decide +kernel
theorem d_D_reset_26 : decode c_D_reset 26 = .ok (.if_icmp .ge 23, 3) := by decide +kernel
theorem d_D_reset_29 : decode c_D_reset 29 = .ok (.aload_n 0, 1) := by decide +kernel
theorem d_D_reset_30 : decode c_D_reset 30 = .ok (.getfield 215, 3) := by decide +kernel
theorem d_D_reset_33 : decode c_D_reset 33 = .ok (.iload_n 2, 1) := by decide +kernel
theorem d_D_reset_34 : decode c_D_reset 34 = .ok (.iconst 0, 1) := by decide +kernel
theorem d_D_reset_35 : decode c_D_reset 35 = .ok (.iastore, 1) := by decide +kernel
theorem d_D_reset_36 : decode c_D_reset 36 = .ok (.aload_n 0, 1) := by decide +kernel
theorem d_D_reset_37 : decode c_D_reset 37 = .ok (.getfield 218, 3) := by decide +kernel
theorem d_D_reset_40 : decode c_D_reset 40 = .ok (.iload_n 2, 1) := by decide +kernel
theorem d_D_reset_41 : decode c_D_reset 41 = .ok (.iconst 0, 1) := by decide +kernel
theorem d_D_reset_42 : decode c_D_reset 42 = .ok (.iastore, 1) := by decide +kernel
theorem d_D_reset_43 : decode c_D_reset 43 = .ok (.iinc 2 1, 3) := by decide +kernel
theorem d_D_reset_46 : decode c_D_reset 46 = .ok (.goto (-23), 3) := by decide +kernel
theorem d_D_reset_49 : decode c_D_reset 49 = .ok (.aload_n 0, 1) := by decide +kernel
theorem d_D_reset_50 : decode c_D_reset 50 = .ok (.iload_n 1, 1) := by decide +kernel
theorem d_D_reset_51 : decode c_D_reset 51 = .ok (.putfield 231, 3) := by decide +kernel
theorem d_D_reset_54 : decode c_D_reset 54 = .ok (.aload_n 0, 1) := by decide +kernel
theorem d_D_reset_55 : decode c_D_reset 55 = .ok (.iload_n 1, 1) := by decide +kernel
theorem d_D_reset_56 : decode c_D_reset 56 = .ok (.iconst 4, 1) := by decide +kernel
theorem d_D_reset_57 : decode c_D_reset 57 = .ok (.iadd, 1) := by decide +kernel
theorem d_D_reset_58 : decode c_D_reset 58 = .ok (.putfield 234, 3) := by decide +kernel
theorem d_D_reset_61 : decode c_D_reset 61 = .ok (.aload_n 0, 1) := by decide +kernel
theorem d_D_reset_62 : decode c_D_reset 62 = .ok (.iconst 0, 1) := by decide +kernel
theorem d_D_reset_63 : decode c_D_reset 63 = .ok (.putfield 237, 3) := by decide +kernel
theorem d_D_reset_66 : decode c_D_reset 66 = .ok (.aload_n 0, 1) := by decide +kernel
theorem d_D_reset_67 : decode c_D_reset 67 = .ok (.iconst 0, 1) := by decide +kernel
theorem d_D_reset_68 : decode c_D_reset 68 = .ok (.putfield 240, 3) := by decide +kernel
theorem d_D_reset_71 : decode c_D_reset 71 = .ok (.aload_n 0, 1) := by decide +kernel
theorem d_D_reset_72 : decode c_D_reset 72 = .ok (.iconst 0, 1) := by decide +kernel
theorem d_D_reset_73 : decode c_D_reset 73 = .ok (.putfield 243, 3) := by decide +kernel
theorem d_D_reset_76 : decode c_D_reset 76 = .ok (.aload_n 0, 1) := by decide +kernel
theorem d_D_reset_77 : decode c_D_reset 77 = .ok (.iconst 0, 1) := by decide +kernel
theorem d_D_reset_78 : decode c_D_reset 78 = .ok (.putfield 246, 3) := by decide +kernel
theorem d_D_reset_81 : decode c_D_reset 81 = .ok (.aload_n 0, 1) := by decide +kernel
theorem d_D_reset_82 : decode c_D_reset 82 = .ok (.iconst (-1), 1) := by decide +kernel
theorem d_D_reset_83 : decode c_D_reset 83 = .ok (.putfield 221, 3) := by decide +kernel
theorem d_D_reset_86 : decode c_D_reset 86 = .ok (.aload_n 0, 1) := by decide +kernel
theorem d_D_reset_87 : decode c_D_reset 87 = .ok (.iconst 0, 1) := by decide +kernel
theorem d_D_reset_88 : decode c_D_reset 88 = .ok (.putfield 249, 3) := by decide +kernel
theorem d_D_reset_91 : decode c_D_reset 91 = .ok (.aload_n 0, 1) := by decide +kernel
theorem d_D_reset_92 : decode c_D_reset 92 = .ok (.iconst 0, 1) := by decide +kernel
theorem d_D_reset_93 : decode c_D_reset 93 = .ok (.putfield 252, 3) := by decide +kernel
theorem d_D_reset_96 : decode c_D_reset 96 = .ok (.aload_n 0, 1) := by decide +kernel
theorem d_D_reset_97 : decode c_D_reset 97 = .ok (.iconst 0, 1) := by decide +kernel
theorem d_D_reset_98 : decode c_D_reset 98 = .ok (.putfield 255, 3) := by decide +kernel
theorem d_D_reset_101 : decode c_D_reset 101 = .ok (.aload_n 0, 1) := by decide +kernel
theorem d_D_reset_102 : decode c_D_reset 102 = .ok (.iconst 0, 1) := by decide +kernel
theorem d_D_reset_103 : decode c_D_reset 103 = .ok (.putfield 259, 3) := by decide +kernel
theorem d_D_reset_106 : decode c_D_reset 106 = .ok (.aload_n 0, 1) := by decide +kernel
theorem d_D_reset_107 : decode c_D_reset 107 = .ok (.iconst 0, 1) := by decide +kernel
theorem d_D_reset_108 : decode c_D_reset 108 = .ok (.putfield 262, 3) := by decide +kernel
theorem d_D_reset_111 : decode c_D_reset 111 = .ok (.aload_n 0, 1) := by decide +kernel
theorem d_D_reset_112 : decode c_D_reset 112 = .ok (.iconst 0, 1) := by decide +kernel
theorem d_D_reset_113 : decode c_D_reset 113 = .ok (.putfield 265, 3) := by decide +kernel
theorem d_D_reset_116 : decode c_D_reset 116 = .ok (.aload_n 0, 1) := by decide +kernel
theorem d_D_reset_117 : decode c_D_reset 117 = .ok (.iconst 1, 1) := by decide +kernel
theorem d_D_reset_118 : decode c_D_reset 118 = .ok (.putfield 268, 3) := by decide +kernel
theorem d_D_reset_121 : decode c_D_reset 121 = .ok (.aload_n 0, 1) := by decide +kernel
theorem d_D_reset_122 : decode c_D_reset 122 = .ok (.iconst 0, 1) := by decide +kernel
theorem d_D_reset_123 : decode c_D_reset 123 = .ok (.putfield 271, 3) := by decide +kernel
theorem d_D_reset_126 : decode c_D_reset 126 = .ok (.aload_n 0, 1) := by decide +kernel
theorem d_D_reset_127 : decode c_D_reset 127 = .ok (.iconst 0, 1) := by decide +kernel
theorem d_D_reset_128 : decode c_D_reset 128 = .ok (.putfield 274, 3) := by decide +kernel
theorem d_D_reset_131 : decode c_D_reset 131 = .ok (.aload_n 0, 1) := by decide +kernel
theorem d_D_reset_132 : decode c_D_reset 132 = .ok (.iconst 0, 1) := by decide +kernel
theorem d_D_reset_133 : decode c_D_reset 133 = .ok (.putfield 277, 3) := by decide +kernel
theorem d_D_reset_136 : decode c_D_reset 136 = .ok (.return_, 1) := by decide +kernel
theorem kd_D_reset : (y_D_reset).cls = "WindowMachineModel" ∧ (y_D_reset).cls ≠ "java/lang/invoke/MethodHandle" ∧ (y_D_reset).cls ≠ "java/lang/invoke/VarHandle" ∧ (parseMethodDescriptor (y_D_reset).desc).map (fun d => d.parameters.length) = some 1 := by decide +kernel
def fl_D_reset_23 (st : SD) (p0 : Int32) : Nat → Nat → SD → SD
  | 0, _, u_6 => u_6
  | n9 + 1, i_5, u_6 => (if (32 : Int32) ≤ (nI i_5) then (upd (upd (upd (upd (upd (upd (upd (upd (upd (upd (upd (upd (upd (upd (upd (upd (upd u_6.1 4 p0) 5 (p0 + (4 : Int32))) 6 (0 : Int32)) 7 (0 : Int32)) 8 (0 : Int32)) 9 (0 : Int32)) 10 (-1 : Int32)) 11 (0 : Int32)) 12 (0 : Int32)) 13 (0 : Int32)) 14 (0 : Int32)) 15 (0 : Int32)) 16 (0 : Int32)) 17 (1 : Int32)) 18 (0 : Int32)) 19 (0 : Int32)) 20 (0 : Int32), u_6.2.1, u_6.2.2.1, u_6.2.2.2.1, u_6.2.2.2.2.1, u_6.2.2.2.2.2) else fl_D_reset_23 st p0 n9 (i_5 + 1) (u_6.1, u_6.2.1, u_6.2.2.1, u_6.2.2.2.1, upd u_6.2.2.2.2.1 (nI i_5).toNatClampNeg (0 : Int32), upd u_6.2.2.2.2.2 (nI i_5).toNatClampNeg (0 : Int32)))
def fl_D_reset_2 (st : SD) (p0 : Int32) : Nat → Nat → SD → SD
  | 0, _, u_2 => u_2
  | n9 + 1, i_1, u_2 => (if (8 : Int32) ≤ (nI i_1) then fl_D_reset_23 st p0 33 0 u_2 else fl_D_reset_2 st p0 n9 (i_1 + 1) (u_2.1, u_2.2.1, u_2.2.2.1, upd u_2.2.2.2.1 (nI i_1).toNatClampNeg (0 : Int32), u_2.2.2.2.2.1, u_2.2.2.2.2.2))
def m_reset (st : SD) (p0 : Int32) : SD := fl_D_reset_2 st p0 9 0 st
set_option maxHeartbeats 4000000 in
set_option maxRecDepth 100000 in
theorem mt_D_reset (l : Launch) (D : va_G) (h : Nat → Nat) (c : Nat → ClassId) (sz : Nat) (st : SD) (p0 : Int32) : Met l y_D_reset w_D_reset ({ frames := 0, cells := 0, slots := 0, locals := 0 }) (va_Pc [.ref (h 20), .int p0] (zw_pre D vwCl [(c 21, .long), (c 22, .int), (c 23, .int), (c 24, .int), (c 25, .int), (c 26, .int), (c 27, .int), (c 28, .int)] sz (wD h c st) (fun _ => True))) (va_Qv (fun (u : SD) => u = m_reset st p0) (fun u t => zw_at D vwCl (va_A (wD h c st) sz) ((fun (u : SD) => wD h c u) u) t) (va_A (wD h c st) sz)) 0 0 (va_A (wD h c st) sz) := by
  refine zm (Qf := fun A => va_Qv (fun (u : SD) => u = m_reset st p0) (fun u t => zw_at D vwCl A ((fun (u : SD) => wD h c u) u) t) A) (Zf := fun _ _ => True) (cc := c_D_reset) (nL := 3) (ret := none) (by decide) rfl (Nat.le_of_ble_eq_true rfl) ?_
  intro p e s m below meth c9 A H locs ls hx hb hml hown hts hr hlocks hA hK hP hD hS hZ hl
  have hl : lv_has ls 3 [(0, .ref (h 20)), (1, .int p0)] := hl
  have ht : ∀ w9 ∈ zT, w9.before _ s = true := fun w9 h9 => hts w9 (List.mem_cons_of_mem _ h9)
  refine lv_iconst (v := (0 : Int32)) hx hb d_D_reset_0 (by decide) ?_
  refine lv_istore_n (lv' := [(2, .int (0 : Int32)), (0, .ref (h 20)), (1, .int p0)]) hx hb d_D_reset_1 rfl hl (by decide) rfl (fun ls hl => ?_)
  refine zloop (X := Nat × SD) (G := fun n9 v9 H locs ls => m_reset st p0 = fl_D_reset_2 st p0 n9 v9.1 v9.2 ∧ (v9.1 + n9 = 9 ∧ v9.1 ≤ 8) ∧ va_P D vwCl (wD h c v9.2) H ∧ va_D A (wD h c v9.2) ∧ va_S A s.heap H locs ∧ lv_has ls 3 [(0, .ref (h 20)), (1, .int p0), (2, .int (nI v9.1))]) (fr := fun v9 ls => F0 m 2 ls []) (n := 9) (v := (0, st)) (fun n9 ih v9 H locs ls hG => ?_) (fun v9 H locs ls hG => ?_) ⟨(by simp only [m_reset]), (by dsimp only; omega), hP, hD, hS, (lv_sub hl [1, 2, 0] rfl)⟩
  · obtain ⟨i_1, u_2⟩ := v9
    obtain ⟨hF_3, hI, hP, hD, hS, hl⟩ := hG
    dsimp only at hF_3 hI hP hD hl
    refine lv_iload_n hx hb d_D_reset_2 rfl (lv_at hl 2 rfl) ?_
    refine lv_bipush (v := (8 : Int32)) hx hb d_D_reset_3 (by decide) ?_
    refine lv_icmp_ge (tgt := 21) hx hb d_D_reset_5 (by decide) (fun c_4 => ?_) (fun c_4 => ?_)
    · refine lv_iconst (v := (0 : Int32)) hx hb d_D_reset_21 (by decide) ?_
      refine lv_istore_n (lv' := [(2, .int (0 : Int32)), (0, .ref (h 20)), (1, .int p0)]) hx hb d_D_reset_22 rfl hl (by decide) rfl (fun ls hl => ?_)
      refine zloop (X := Nat × SD) (G := fun n9 v9 H locs ls => m_reset st p0 = fl_D_reset_23 st p0 n9 v9.1 v9.2 ∧ (v9.1 + n9 = 33 ∧ v9.1 ≤ 32) ∧ va_P D vwCl (wD h c v9.2) H ∧ va_D A (wD h c v9.2) ∧ va_S A s.heap H locs ∧ lv_has ls 3 [(0, .ref (h 20)), (1, .int p0), (2, .int (nI v9.1))]) (fr := fun v9 ls => F0 m 23 ls []) (n := 33) (v := (0, u_2)) (fun n9 ih v9 H locs ls hG => ?_) (fun v9 H locs ls hG => ?_) ⟨(by rw [hF_3]; simp only [fl_D_reset_2, if_pos c_4]), (by dsimp only; omega), hP, hD, hS, (lv_sub hl [1, 2, 0] rfl)⟩
      · obtain ⟨i_5, u_6⟩ := v9
        obtain ⟨hF_7, hI, hP, hD, hS, hl⟩ := hG
        dsimp only at hF_7 hI hP hD hl
        refine lv_iload_n hx hb d_D_reset_23 rfl (lv_at hl 2 rfl) ?_
        refine lv_bipush (v := (32 : Int32)) hx hb d_D_reset_24 (by decide) ?_
        refine lv_icmp_ge (tgt := 49) hx hb d_D_reset_26 (by decide) (fun c_8 => ?_) (fun c_8 => ?_)
        · refine lv_aload_n hx hb d_D_reset_49 rfl (lv_at hl 0 rfl) ?_
          refine lv_iload_n hx hb d_D_reset_50 rfl (lv_at hl 1 rfl) ?_
          refine va_put (D := D) (ci := 6) (v := .int p0) (ty := .int) (C := "WindowMachineModel") (T := T_D) (N := 31) hx hb ht zi_D ty_D tyok_D nm_D hown hK hP hD hS 0 rfl rfl 12 (by decide) (ht _ zw_866) (fun _ h9 => h9) rfl (by decide +kernel) rfl rfl (Nat.le_of_ble_eq_true rfl) d_D_reset_51 (fun H locs hP hD hS => ?_)
          have hP : va_P D vwCl (wD h c (upd u_6.1 4 p0, u_6.2.1, u_6.2.2.1, u_6.2.2.2.1, u_6.2.2.2.2.1, u_6.2.2.2.2.2)) H := hP
          have hD : va_D A (wD h c (upd u_6.1 4 p0, u_6.2.1, u_6.2.2.1, u_6.2.2.2.1, u_6.2.2.2.2.1, u_6.2.2.2.2.2)) := hD
          refine lv_aload_n hx hb d_D_reset_54 rfl (lv_at hl 0 rfl) ?_
          refine lv_iload_n hx hb d_D_reset_55 rfl (lv_at hl 1 rfl) ?_
          refine lv_iconst (v := (4 : Int32)) hx hb d_D_reset_56 (by decide) ?_
          refine lv_iadd hx hb d_D_reset_57 ?_
          refine va_put (D := D) (ci := 6) (v := .int (p0 + (4 : Int32))) (ty := .int) (C := "WindowMachineModel") (T := T_D) (N := 31) hx hb ht zi_D ty_D tyok_D nm_D hown hK hP hD hS 0 rfl rfl 13 (by decide) (ht _ zw_867) (fun _ h9 => h9) rfl (by decide +kernel) rfl rfl (Nat.le_of_ble_eq_true rfl) d_D_reset_58 (fun H locs hP hD hS => ?_)
          have hP : va_P D vwCl (wD h c (upd (upd u_6.1 4 p0) 5 (p0 + (4 : Int32)), u_6.2.1, u_6.2.2.1, u_6.2.2.2.1, u_6.2.2.2.2.1, u_6.2.2.2.2.2)) H := hP
          have hD : va_D A (wD h c (upd (upd u_6.1 4 p0) 5 (p0 + (4 : Int32)), u_6.2.1, u_6.2.2.1, u_6.2.2.2.1, u_6.2.2.2.2.1, u_6.2.2.2.2.2)) := hD
          refine lv_aload_n hx hb d_D_reset_61 rfl (lv_at hl 0 rfl) ?_
          refine lv_iconst (v := (0 : Int32)) hx hb d_D_reset_62 (by decide) ?_
          refine va_put (D := D) (ci := 6) (v := .int (0 : Int32)) (ty := .int) (C := "WindowMachineModel") (T := T_D) (N := 31) hx hb ht zi_D ty_D tyok_D nm_D hown hK hP hD hS 0 rfl rfl 14 (by decide) (ht _ zw_868) (fun _ h9 => h9) rfl (by decide +kernel) rfl rfl (Nat.le_of_ble_eq_true rfl) d_D_reset_63 (fun H locs hP hD hS => ?_)
          have hP : va_P D vwCl (wD h c (upd (upd (upd u_6.1 4 p0) 5 (p0 + (4 : Int32))) 6 (0 : Int32), u_6.2.1, u_6.2.2.1, u_6.2.2.2.1, u_6.2.2.2.2.1, u_6.2.2.2.2.2)) H := hP
          have hD : va_D A (wD h c (upd (upd (upd u_6.1 4 p0) 5 (p0 + (4 : Int32))) 6 (0 : Int32), u_6.2.1, u_6.2.2.1, u_6.2.2.2.1, u_6.2.2.2.2.1, u_6.2.2.2.2.2)) := hD
          refine lv_aload_n hx hb d_D_reset_66 rfl (lv_at hl 0 rfl) ?_
          refine lv_iconst (v := (0 : Int32)) hx hb d_D_reset_67 (by decide) ?_
          refine va_put (D := D) (ci := 6) (v := .int (0 : Int32)) (ty := .int) (C := "WindowMachineModel") (T := T_D) (N := 31) hx hb ht zi_D ty_D tyok_D nm_D hown hK hP hD hS 0 rfl rfl 15 (by decide) (ht _ zw_869) (fun _ h9 => h9) rfl (by decide +kernel) rfl rfl (Nat.le_of_ble_eq_true rfl) d_D_reset_68 (fun H locs hP hD hS => ?_)
          have hP : va_P D vwCl (wD h c (upd (upd (upd (upd u_6.1 4 p0) 5 (p0 + (4 : Int32))) 6 (0 : Int32)) 7 (0 : Int32), u_6.2.1, u_6.2.2.1, u_6.2.2.2.1, u_6.2.2.2.2.1, u_6.2.2.2.2.2)) H := hP
          have hD : va_D A (wD h c (upd (upd (upd (upd u_6.1 4 p0) 5 (p0 + (4 : Int32))) 6 (0 : Int32)) 7 (0 : Int32), u_6.2.1, u_6.2.2.1, u_6.2.2.2.1, u_6.2.2.2.2.1, u_6.2.2.2.2.2)) := hD
          refine lv_aload_n hx hb d_D_reset_71 rfl (lv_at hl 0 rfl) ?_
          refine lv_iconst (v := (0 : Int32)) hx hb d_D_reset_72 (by decide) ?_
          refine va_put (D := D) (ci := 6) (v := .int (0 : Int32)) (ty := .int) (C := "WindowMachineModel") (T := T_D) (N := 31) hx hb ht zi_D ty_D tyok_D nm_D hown hK hP hD hS 0 rfl rfl 16 (by decide) (ht _ zw_870) (fun _ h9 => h9) rfl (by decide +kernel) rfl rfl (Nat.le_of_ble_eq_true rfl) d_D_reset_73 (fun H locs hP hD hS => ?_)
          have hP : va_P D vwCl (wD h c (upd (upd (upd (upd (upd u_6.1 4 p0) 5 (p0 + (4 : Int32))) 6 (0 : Int32)) 7 (0 : Int32)) 8 (0 : Int32), u_6.2.1, u_6.2.2.1, u_6.2.2.2.1, u_6.2.2.2.2.1, u_6.2.2.2.2.2)) H := hP
          have hD : va_D A (wD h c (upd (upd (upd (upd (upd u_6.1 4 p0) 5 (p0 + (4 : Int32))) 6 (0 : Int32)) 7 (0 : Int32)) 8 (0 : Int32), u_6.2.1, u_6.2.2.1, u_6.2.2.2.1, u_6.2.2.2.2.1, u_6.2.2.2.2.2)) := hD
          refine lv_aload_n hx hb d_D_reset_76 rfl (lv_at hl 0 rfl) ?_
          refine lv_iconst (v := (0 : Int32)) hx hb d_D_reset_77 (by decide) ?_
          refine va_put (D := D) (ci := 6) (v := .int (0 : Int32)) (ty := .int) (C := "WindowMachineModel") (T := T_D) (N := 31) hx hb ht zi_D ty_D tyok_D nm_D hown hK hP hD hS 0 rfl rfl 17 (by decide) (ht _ zw_871) (fun _ h9 => h9) rfl (by decide +kernel) rfl rfl (Nat.le_of_ble_eq_true rfl) d_D_reset_78 (fun H locs hP hD hS => ?_)
          have hP : va_P D vwCl (wD h c (upd (upd (upd (upd (upd (upd u_6.1 4 p0) 5 (p0 + (4 : Int32))) 6 (0 : Int32)) 7 (0 : Int32)) 8 (0 : Int32)) 9 (0 : Int32), u_6.2.1, u_6.2.2.1, u_6.2.2.2.1, u_6.2.2.2.2.1, u_6.2.2.2.2.2)) H := hP
          have hD : va_D A (wD h c (upd (upd (upd (upd (upd (upd u_6.1 4 p0) 5 (p0 + (4 : Int32))) 6 (0 : Int32)) 7 (0 : Int32)) 8 (0 : Int32)) 9 (0 : Int32), u_6.2.1, u_6.2.2.1, u_6.2.2.2.1, u_6.2.2.2.2.1, u_6.2.2.2.2.2)) := hD
          refine lv_aload_n hx hb d_D_reset_81 rfl (lv_at hl 0 rfl) ?_
          refine lv_iconst (v := (-1 : Int32)) hx hb d_D_reset_82 (by decide) ?_
          refine va_put (D := D) (ci := 6) (v := .int (-1 : Int32)) (ty := .int) (C := "WindowMachineModel") (T := T_D) (N := 31) hx hb ht zi_D ty_D tyok_D nm_D hown hK hP hD hS 0 rfl rfl 18 (by decide) (ht _ zw_872) (fun _ h9 => h9) rfl (by decide +kernel) rfl rfl (Nat.le_of_ble_eq_true rfl) d_D_reset_83 (fun H locs hP hD hS => ?_)
          have hP : va_P D vwCl (wD h c (upd (upd (upd (upd (upd (upd (upd u_6.1 4 p0) 5 (p0 + (4 : Int32))) 6 (0 : Int32)) 7 (0 : Int32)) 8 (0 : Int32)) 9 (0 : Int32)) 10 (-1 : Int32), u_6.2.1, u_6.2.2.1, u_6.2.2.2.1, u_6.2.2.2.2.1, u_6.2.2.2.2.2)) H := hP
          have hD : va_D A (wD h c (upd (upd (upd (upd (upd (upd (upd u_6.1 4 p0) 5 (p0 + (4 : Int32))) 6 (0 : Int32)) 7 (0 : Int32)) 8 (0 : Int32)) 9 (0 : Int32)) 10 (-1 : Int32), u_6.2.1, u_6.2.2.1, u_6.2.2.2.1, u_6.2.2.2.2.1, u_6.2.2.2.2.2)) := hD
          refine lv_aload_n hx hb d_D_reset_86 rfl (lv_at hl 0 rfl) ?_
          refine lv_iconst (v := (0 : Int32)) hx hb d_D_reset_87 (by decide) ?_
          refine va_put (D := D) (ci := 6) (v := .int (0 : Int32)) (ty := .int) (C := "WindowMachineModel") (T := T_D) (N := 31) hx hb ht zi_D ty_D tyok_D nm_D hown hK hP hD hS 0 rfl rfl 19 (by decide) (ht _ zw_873) (fun _ h9 => h9) rfl (by decide +kernel) rfl rfl (Nat.le_of_ble_eq_true rfl) d_D_reset_88 (fun H locs hP hD hS => ?_)
          have hP : va_P D vwCl (wD h c (upd (upd (upd (upd (upd (upd (upd (upd u_6.1 4 p0) 5 (p0 + (4 : Int32))) 6 (0 : Int32)) 7 (0 : Int32)) 8 (0 : Int32)) 9 (0 : Int32)) 10 (-1 : Int32)) 11 (0 : Int32), u_6.2.1, u_6.2.2.1, u_6.2.2.2.1, u_6.2.2.2.2.1, u_6.2.2.2.2.2)) H := hP
          have hD : va_D A (wD h c (upd (upd (upd (upd (upd (upd (upd (upd u_6.1 4 p0) 5 (p0 + (4 : Int32))) 6 (0 : Int32)) 7 (0 : Int32)) 8 (0 : Int32)) 9 (0 : Int32)) 10 (-1 : Int32)) 11 (0 : Int32), u_6.2.1, u_6.2.2.1, u_6.2.2.2.1, u_6.2.2.2.2.1, u_6.2.2.2.2.2)) := hD
          refine lv_aload_n hx hb d_D_reset_91 rfl (lv_at hl 0 rfl) ?_
          refine lv_iconst (v := (0 : Int32)) hx hb d_D_reset_92 (by decide) ?_
          refine va_put (D := D) (ci := 6) (v := .int (0 : Int32)) (ty := .int) (C := "WindowMachineModel") (T := T_D) (N := 31) hx hb ht zi_D ty_D tyok_D nm_D hown hK hP hD hS 0 rfl rfl 20 (by decide) (ht _ zw_874) (fun _ h9 => h9) rfl (by decide +kernel) rfl rfl (Nat.le_of_ble_eq_true rfl) d_D_reset_93 (fun H locs hP hD hS => ?_)
          have hP : va_P D vwCl (wD h c (upd (upd (upd (upd (upd (upd (upd (upd (upd u_6.1 4 p0) 5 (p0 + (4 : Int32))) 6 (0 : Int32)) 7 (0 : Int32)) 8 (0 : Int32)) 9 (0 : Int32)) 10 (-1 : Int32)) 11 (0 : Int32)) 12 (0 : Int32), u_6.2.1, u_6.2.2.1, u_6.2.2.2.1, u_6.2.2.2.2.1, u_6.2.2.2.2.2)) H := hP
          have hD : va_D A (wD h c (upd (upd (upd (upd (upd (upd (upd (upd (upd u_6.1 4 p0) 5 (p0 + (4 : Int32))) 6 (0 : Int32)) 7 (0 : Int32)) 8 (0 : Int32)) 9 (0 : Int32)) 10 (-1 : Int32)) 11 (0 : Int32)) 12 (0 : Int32), u_6.2.1, u_6.2.2.1, u_6.2.2.2.1, u_6.2.2.2.2.1, u_6.2.2.2.2.2)) := hD
          refine lv_aload_n hx hb d_D_reset_96 rfl (lv_at hl 0 rfl) ?_
          refine lv_iconst (v := (0 : Int32)) hx hb d_D_reset_97 (by decide) ?_
          refine va_put (D := D) (ci := 6) (v := .int (0 : Int32)) (ty := .boolean) (C := "WindowMachineModel") (T := T_D) (N := 31) hx hb ht zi_D ty_D tyok_D nm_D hown hK hP hD hS 0 rfl rfl 21 (by decide) (ht _ zw_875) (fun _ h9 => h9) rfl (by decide +kernel) rfl rfl (Nat.le_of_ble_eq_true rfl) d_D_reset_98 (fun H locs hP hD hS => ?_)
          have hP : va_P D vwCl (wD h c (upd (upd (upd (upd (upd (upd (upd (upd (upd (upd u_6.1 4 p0) 5 (p0 + (4 : Int32))) 6 (0 : Int32)) 7 (0 : Int32)) 8 (0 : Int32)) 9 (0 : Int32)) 10 (-1 : Int32)) 11 (0 : Int32)) 12 (0 : Int32)) 13 (0 : Int32), u_6.2.1, u_6.2.2.1, u_6.2.2.2.1, u_6.2.2.2.2.1, u_6.2.2.2.2.2)) H := hP
          have hD : va_D A (wD h c (upd (upd (upd (upd (upd (upd (upd (upd (upd (upd u_6.1 4 p0) 5 (p0 + (4 : Int32))) 6 (0 : Int32)) 7 (0 : Int32)) 8 (0 : Int32)) 9 (0 : Int32)) 10 (-1 : Int32)) 11 (0 : Int32)) 12 (0 : Int32)) 13 (0 : Int32), u_6.2.1, u_6.2.2.1, u_6.2.2.2.1, u_6.2.2.2.2.1, u_6.2.2.2.2.2)) := hD
          refine lv_aload_n hx hb d_D_reset_101 rfl (lv_at hl 0 rfl) ?_
          refine lv_iconst (v := (0 : Int32)) hx hb d_D_reset_102 (by decide) ?_
          refine va_put (D := D) (ci := 6) (v := .int (0 : Int32)) (ty := .boolean) (C := "WindowMachineModel") (T := T_D) (N := 31) hx hb ht zi_D ty_D tyok_D nm_D hown hK hP hD hS 0 rfl rfl 22 (by decide) (ht _ zw_876) (fun _ h9 => h9) rfl (by decide +kernel) rfl rfl (Nat.le_of_ble_eq_true rfl) d_D_reset_103 (fun H locs hP hD hS => ?_)
          have hP : va_P D vwCl (wD h c (upd (upd (upd (upd (upd (upd (upd (upd (upd (upd (upd u_6.1 4 p0) 5 (p0 + (4 : Int32))) 6 (0 : Int32)) 7 (0 : Int32)) 8 (0 : Int32)) 9 (0 : Int32)) 10 (-1 : Int32)) 11 (0 : Int32)) 12 (0 : Int32)) 13 (0 : Int32)) 14 (0 : Int32), u_6.2.1, u_6.2.2.1, u_6.2.2.2.1, u_6.2.2.2.2.1, u_6.2.2.2.2.2)) H := hP
          have hD : va_D A (wD h c (upd (upd (upd (upd (upd (upd (upd (upd (upd (upd (upd u_6.1 4 p0) 5 (p0 + (4 : Int32))) 6 (0 : Int32)) 7 (0 : Int32)) 8 (0 : Int32)) 9 (0 : Int32)) 10 (-1 : Int32)) 11 (0 : Int32)) 12 (0 : Int32)) 13 (0 : Int32)) 14 (0 : Int32), u_6.2.1, u_6.2.2.1, u_6.2.2.2.1, u_6.2.2.2.2.1, u_6.2.2.2.2.2)) := hD
          refine lv_aload_n hx hb d_D_reset_106 rfl (lv_at hl 0 rfl) ?_
          refine lv_iconst (v := (0 : Int32)) hx hb d_D_reset_107 (by decide) ?_
          refine va_put (D := D) (ci := 6) (v := .int (0 : Int32)) (ty := .boolean) (C := "WindowMachineModel") (T := T_D) (N := 31) hx hb ht zi_D ty_D tyok_D nm_D hown hK hP hD hS 0 rfl rfl 23 (by decide) (ht _ zw_877) (fun _ h9 => h9) rfl (by decide +kernel) rfl rfl (Nat.le_of_ble_eq_true rfl) d_D_reset_108 (fun H locs hP hD hS => ?_)
          have hP : va_P D vwCl (wD h c (upd (upd (upd (upd (upd (upd (upd (upd (upd (upd (upd (upd u_6.1 4 p0) 5 (p0 + (4 : Int32))) 6 (0 : Int32)) 7 (0 : Int32)) 8 (0 : Int32)) 9 (0 : Int32)) 10 (-1 : Int32)) 11 (0 : Int32)) 12 (0 : Int32)) 13 (0 : Int32)) 14 (0 : Int32)) 15 (0 : Int32), u_6.2.1, u_6.2.2.1, u_6.2.2.2.1, u_6.2.2.2.2.1, u_6.2.2.2.2.2)) H := hP
          have hD : va_D A (wD h c (upd (upd (upd (upd (upd (upd (upd (upd (upd (upd (upd (upd u_6.1 4 p0) 5 (p0 + (4 : Int32))) 6 (0 : Int32)) 7 (0 : Int32)) 8 (0 : Int32)) 9 (0 : Int32)) 10 (-1 : Int32)) 11 (0 : Int32)) 12 (0 : Int32)) 13 (0 : Int32)) 14 (0 : Int32)) 15 (0 : Int32), u_6.2.1, u_6.2.2.1, u_6.2.2.2.1, u_6.2.2.2.2.1, u_6.2.2.2.2.2)) := hD
          refine lv_aload_n hx hb d_D_reset_111 rfl (lv_at hl 0 rfl) ?_
          refine lv_iconst (v := (0 : Int32)) hx hb d_D_reset_112 (by decide) ?_
          refine va_put (D := D) (ci := 6) (v := .int (0 : Int32)) (ty := .boolean) (C := "WindowMachineModel") (T := T_D) (N := 31) hx hb ht zi_D ty_D tyok_D nm_D hown hK hP hD hS 0 rfl rfl 24 (by decide) (ht _ zw_878) (fun _ h9 => h9) rfl (by decide +kernel) rfl rfl (Nat.le_of_ble_eq_true rfl) d_D_reset_113 (fun H locs hP hD hS => ?_)
          have hP : va_P D vwCl (wD h c (upd (upd (upd (upd (upd (upd (upd (upd (upd (upd (upd (upd (upd u_6.1 4 p0) 5 (p0 + (4 : Int32))) 6 (0 : Int32)) 7 (0 : Int32)) 8 (0 : Int32)) 9 (0 : Int32)) 10 (-1 : Int32)) 11 (0 : Int32)) 12 (0 : Int32)) 13 (0 : Int32)) 14 (0 : Int32)) 15 (0 : Int32)) 16 (0 : Int32), u_6.2.1, u_6.2.2.1, u_6.2.2.2.1, u_6.2.2.2.2.1, u_6.2.2.2.2.2)) H := hP
          have hD : va_D A (wD h c (upd (upd (upd (upd (upd (upd (upd (upd (upd (upd (upd (upd (upd u_6.1 4 p0) 5 (p0 + (4 : Int32))) 6 (0 : Int32)) 7 (0 : Int32)) 8 (0 : Int32)) 9 (0 : Int32)) 10 (-1 : Int32)) 11 (0 : Int32)) 12 (0 : Int32)) 13 (0 : Int32)) 14 (0 : Int32)) 15 (0 : Int32)) 16 (0 : Int32), u_6.2.1, u_6.2.2.1, u_6.2.2.2.1, u_6.2.2.2.2.1, u_6.2.2.2.2.2)) := hD
          refine lv_aload_n hx hb d_D_reset_116 rfl (lv_at hl 0 rfl) ?_
          refine lv_iconst (v := (1 : Int32)) hx hb d_D_reset_117 (by decide) ?_
          refine va_put (D := D) (ci := 6) (v := .int (1 : Int32)) (ty := .boolean) (C := "WindowMachineModel") (T := T_D) (N := 31) hx hb ht zi_D ty_D tyok_D nm_D hown hK hP hD hS 0 rfl rfl 25 (by decide) (ht _ zw_879) (fun _ h9 => h9) rfl (by decide +kernel) rfl rfl (Nat.le_of_ble_eq_true rfl) d_D_reset_118 (fun H locs hP hD hS => ?_)
          have hP : va_P D vwCl (wD h c (upd (upd (upd (upd (upd (upd (upd (upd (upd (upd (upd (upd (upd (upd u_6.1 4 p0) 5 (p0 + (4 : Int32))) 6 (0 : Int32)) 7 (0 : Int32)) 8 (0 : Int32)) 9 (0 : Int32)) 10 (-1 : Int32)) 11 (0 : Int32)) 12 (0 : Int32)) 13 (0 : Int32)) 14 (0 : Int32)) 15 (0 : Int32)) 16 (0 : Int32)) 17 (1 : Int32), u_6.2.1, u_6.2.2.1, u_6.2.2.2.1, u_6.2.2.2.2.1, u_6.2.2.2.2.2)) H := hP
          have hD : va_D A (wD h c (upd (upd (upd (upd (upd (upd (upd (upd (upd (upd (upd (upd (upd (upd u_6.1 4 p0) 5 (p0 + (4 : Int32))) 6 (0 : Int32)) 7 (0 : Int32)) 8 (0 : Int32)) 9 (0 : Int32)) 10 (-1 : Int32)) 11 (0 : Int32)) 12 (0 : Int32)) 13 (0 : Int32)) 14 (0 : Int32)) 15 (0 : Int32)) 16 (0 : Int32)) 17 (1 : Int32), u_6.2.1, u_6.2.2.1, u_6.2.2.2.1, u_6.2.2.2.2.1, u_6.2.2.2.2.2)) := hD
          refine lv_aload_n hx hb d_D_reset_121 rfl (lv_at hl 0 rfl) ?_
          refine lv_iconst (v := (0 : Int32)) hx hb d_D_reset_122 (by decide) ?_
          refine va_put (D := D) (ci := 6) (v := .int (0 : Int32)) (ty := .boolean) (C := "WindowMachineModel") (T := T_D) (N := 31) hx hb ht zi_D ty_D tyok_D nm_D hown hK hP hD hS 0 rfl rfl 26 (by decide) (ht _ zw_880) (fun _ h9 => h9) rfl (by decide +kernel) rfl rfl (Nat.le_of_ble_eq_true rfl) d_D_reset_123 (fun H locs hP hD hS => ?_)
          have hP : va_P D vwCl (wD h c (upd (upd (upd (upd (upd (upd (upd (upd (upd (upd (upd (upd (upd (upd (upd u_6.1 4 p0) 5 (p0 + (4 : Int32))) 6 (0 : Int32)) 7 (0 : Int32)) 8 (0 : Int32)) 9 (0 : Int32)) 10 (-1 : Int32)) 11 (0 : Int32)) 12 (0 : Int32)) 13 (0 : Int32)) 14 (0 : Int32)) 15 (0 : Int32)) 16 (0 : Int32)) 17 (1 : Int32)) 18 (0 : Int32), u_6.2.1, u_6.2.2.1, u_6.2.2.2.1, u_6.2.2.2.2.1, u_6.2.2.2.2.2)) H := hP
          have hD : va_D A (wD h c (upd (upd (upd (upd (upd (upd (upd (upd (upd (upd (upd (upd (upd (upd (upd u_6.1 4 p0) 5 (p0 + (4 : Int32))) 6 (0 : Int32)) 7 (0 : Int32)) 8 (0 : Int32)) 9 (0 : Int32)) 10 (-1 : Int32)) 11 (0 : Int32)) 12 (0 : Int32)) 13 (0 : Int32)) 14 (0 : Int32)) 15 (0 : Int32)) 16 (0 : Int32)) 17 (1 : Int32)) 18 (0 : Int32), u_6.2.1, u_6.2.2.1, u_6.2.2.2.1, u_6.2.2.2.2.1, u_6.2.2.2.2.2)) := hD
          refine lv_aload_n hx hb d_D_reset_126 rfl (lv_at hl 0 rfl) ?_
          refine lv_iconst (v := (0 : Int32)) hx hb d_D_reset_127 (by decide) ?_
          refine va_put (D := D) (ci := 6) (v := .int (0 : Int32)) (ty := .boolean) (C := "WindowMachineModel") (T := T_D) (N := 31) hx hb ht zi_D ty_D tyok_D nm_D hown hK hP hD hS 0 rfl rfl 27 (by decide) (ht _ zw_881) (fun _ h9 => h9) rfl (by decide +kernel) rfl rfl (Nat.le_of_ble_eq_true rfl) d_D_reset_128 (fun H locs hP hD hS => ?_)
          have hP : va_P D vwCl (wD h c (upd (upd (upd (upd (upd (upd (upd (upd (upd (upd (upd (upd (upd (upd (upd (upd u_6.1 4 p0) 5 (p0 + (4 : Int32))) 6 (0 : Int32)) 7 (0 : Int32)) 8 (0 : Int32)) 9 (0 : Int32)) 10 (-1 : Int32)) 11 (0 : Int32)) 12 (0 : Int32)) 13 (0 : Int32)) 14 (0 : Int32)) 15 (0 : Int32)) 16 (0 : Int32)) 17 (1 : Int32)) 18 (0 : Int32)) 19 (0 : Int32), u_6.2.1, u_6.2.2.1, u_6.2.2.2.1, u_6.2.2.2.2.1, u_6.2.2.2.2.2)) H := hP
          have hD : va_D A (wD h c (upd (upd (upd (upd (upd (upd (upd (upd (upd (upd (upd (upd (upd (upd (upd (upd u_6.1 4 p0) 5 (p0 + (4 : Int32))) 6 (0 : Int32)) 7 (0 : Int32)) 8 (0 : Int32)) 9 (0 : Int32)) 10 (-1 : Int32)) 11 (0 : Int32)) 12 (0 : Int32)) 13 (0 : Int32)) 14 (0 : Int32)) 15 (0 : Int32)) 16 (0 : Int32)) 17 (1 : Int32)) 18 (0 : Int32)) 19 (0 : Int32), u_6.2.1, u_6.2.2.1, u_6.2.2.2.1, u_6.2.2.2.2.1, u_6.2.2.2.2.2)) := hD
          refine lv_aload_n hx hb d_D_reset_131 rfl (lv_at hl 0 rfl) ?_
          refine lv_iconst (v := (0 : Int32)) hx hb d_D_reset_132 (by decide) ?_
          refine va_put (D := D) (ci := 6) (v := .int (0 : Int32)) (ty := .boolean) (C := "WindowMachineModel") (T := T_D) (N := 31) hx hb ht zi_D ty_D tyok_D nm_D hown hK hP hD hS 0 rfl rfl 28 (by decide) (ht _ zw_882) (fun _ h9 => h9) rfl (by decide +kernel) rfl rfl (Nat.le_of_ble_eq_true rfl) d_D_reset_133 (fun H locs hP hD hS => ?_)
          have hP : va_P D vwCl (wD h c (upd (upd (upd (upd (upd (upd (upd (upd (upd (upd (upd (upd (upd (upd (upd (upd (upd u_6.1 4 p0) 5 (p0 + (4 : Int32))) 6 (0 : Int32)) 7 (0 : Int32)) 8 (0 : Int32)) 9 (0 : Int32)) 10 (-1 : Int32)) 11 (0 : Int32)) 12 (0 : Int32)) 13 (0 : Int32)) 14 (0 : Int32)) 15 (0 : Int32)) 16 (0 : Int32)) 17 (1 : Int32)) 18 (0 : Int32)) 19 (0 : Int32)) 20 (0 : Int32), u_6.2.1, u_6.2.2.1, u_6.2.2.2.1, u_6.2.2.2.2.1, u_6.2.2.2.2.2)) H := hP
          have hD : va_D A (wD h c (upd (upd (upd (upd (upd (upd (upd (upd (upd (upd (upd (upd (upd (upd (upd (upd (upd u_6.1 4 p0) 5 (p0 + (4 : Int32))) 6 (0 : Int32)) 7 (0 : Int32)) 8 (0 : Int32)) 9 (0 : Int32)) 10 (-1 : Int32)) 11 (0 : Int32)) 12 (0 : Int32)) 13 (0 : Int32)) 14 (0 : Int32)) 15 (0 : Int32)) 16 (0 : Int32)) 17 (1 : Int32)) 18 (0 : Int32)) 19 (0 : Int32)) 20 (0 : Int32), u_6.2.1, u_6.2.2.1, u_6.2.2.2.1, u_6.2.2.2.2.1, u_6.2.2.2.2.2)) := hD
          exact zl_v (u := (upd (upd (upd (upd (upd (upd (upd (upd (upd (upd (upd (upd (upd (upd (upd (upd (upd u_6.1 4 p0) 5 (p0 + (4 : Int32))) 6 (0 : Int32)) 7 (0 : Int32)) 8 (0 : Int32)) 9 (0 : Int32)) 10 (-1 : Int32)) 11 (0 : Int32)) 12 (0 : Int32)) 13 (0 : Int32)) 14 (0 : Int32)) 15 (0 : Int32)) 16 (0 : Int32)) 17 (1 : Int32)) 18 (0 : Int32)) 19 (0 : Int32)) 20 (0 : Int32), u_6.2.1, u_6.2.2.1, u_6.2.2.2.1, u_6.2.2.2.2.1, u_6.2.2.2.2.2)) hx hb hr hlocks hS hP hD (by rw [hF_7]; simp only [fl_D_reset_23, if_pos c_8]) d_D_reset_136
        refine lv_aload_n hx hb d_D_reset_29 rfl (lv_at hl 0 rfl) ?_
        refine va_get (D := D) (ci := 6) (v := .ref (h 27)) (C := "WindowMachineModel") (T := T_D) (N := 31) hx hb ht zi_D hown hK hP 0 rfl rfl 10 (by decide) (ht _ zw_864) (fun _ h9 => h9) rfl d_D_reset_30 ?_
        refine lv_iload_n hx hb d_D_reset_33 rfl (lv_at hl 2 rfl) ?_
        refine lv_iconst (v := (0 : Int32)) hx hb d_D_reset_34 (by decide) ?_
        refine va_iast hx hb hK hP hD hS 7 6 rfl rfl (vp_in_nI (znlt (N := 32) (by omega) c_8) (by decide)) d_D_reset_35 (fun H locs hP hD hS => ?_)
        have hP : va_P D vwCl (wD h c (u_6.1, u_6.2.1, u_6.2.2.1, u_6.2.2.2.1, upd u_6.2.2.2.2.1 (nI i_5).toNatClampNeg (0 : Int32), u_6.2.2.2.2.2)) H := hP
        have hD : va_D A (wD h c (u_6.1, u_6.2.1, u_6.2.2.1, u_6.2.2.2.1, upd u_6.2.2.2.2.1 (nI i_5).toNatClampNeg (0 : Int32), u_6.2.2.2.2.2)) := hD
        refine lv_aload_n hx hb d_D_reset_36 rfl (lv_at hl 0 rfl) ?_
        refine va_get (D := D) (ci := 6) (v := .ref (h 28)) (C := "WindowMachineModel") (T := T_D) (N := 31) hx hb ht zi_D hown hK hP 0 rfl rfl 11 (by decide) (ht _ zw_865) (fun _ h9 => h9) rfl d_D_reset_37 ?_
        refine lv_iload_n hx hb d_D_reset_40 rfl (lv_at hl 2 rfl) ?_
        refine lv_iconst (v := (0 : Int32)) hx hb d_D_reset_41 (by decide) ?_
        refine va_iast hx hb hK hP hD hS 8 7 rfl rfl (vp_in_nI (znlt (N := 32) (by omega) c_8) (by decide)) d_D_reset_42 (fun H locs hP hD hS => ?_)
        have hP : va_P D vwCl (wD h c (u_6.1, u_6.2.1, u_6.2.2.1, u_6.2.2.2.1, upd u_6.2.2.2.2.1 (nI i_5).toNatClampNeg (0 : Int32), upd u_6.2.2.2.2.2 (nI i_5).toNatClampNeg (0 : Int32))) H := hP
        have hD : va_D A (wD h c (u_6.1, u_6.2.1, u_6.2.2.1, u_6.2.2.2.1, upd u_6.2.2.2.2.1 (nI i_5).toNatClampNeg (0 : Int32), upd u_6.2.2.2.2.2 (nI i_5).toNatClampNeg (0 : Int32))) := hD
        refine lv_iinc (v := (nI i_5) + (1 : Int32)) (lv' := [(2, .int ((nI i_5) + (1 : Int32))), (0, .ref (h 20)), (1, .int p0)]) hx hb d_D_reset_43 hl (k := 2) rfl rfl (by decide) rfl (fun ls hl => ?_)
        refine lv_goto (tgt := 23) hx hb d_D_reset_46 (by decide) ?_
        have hl : lv_has ls 3 [(0, .ref (h 20)), (1, .int p0), (2, .int (nI (i_5 + 1)))] := by rw [← nI_1 i_5]; exact (lv_sub hl [1, 2, 0] rfl)
        exact ih (i_5 + 1, (u_6.1, u_6.2.1, u_6.2.2.1, u_6.2.2.2.1, upd u_6.2.2.2.2.1 (nI i_5).toNatClampNeg (0 : Int32), upd u_6.2.2.2.2.2 (nI i_5).toNatClampNeg (0 : Int32))) _ _ _ ⟨by rw [hF_7]; simp only [fl_D_reset_23, if_neg c_8], ⟨by omega, znlt (N := 32) (by omega) c_8⟩, hP, hD, hS, hl⟩
      · obtain ⟨i_5, u_6⟩ := v9
        obtain ⟨-, hI, -⟩ := hG
        dsimp only at hI
        exact (by omega)
    refine lv_aload_n hx hb d_D_reset_8 rfl (lv_at hl 0 rfl) ?_
    refine va_get (D := D) (ci := 6) (v := .ref (h 26)) (C := "WindowMachineModel") (T := T_D) (N := 31) hx hb ht zi_D hown hK hP 0 rfl rfl 9 (by decide) (ht _ zw_863) (fun _ h9 => h9) rfl d_D_reset_9 ?_
    refine lv_iload_n hx hb d_D_reset_12 rfl (lv_at hl 2 rfl) ?_
    refine lv_iconst (v := (0 : Int32)) hx hb d_D_reset_13 (by decide) ?_
    refine va_iast hx hb hK hP hD hS 6 5 rfl rfl (vp_in_nI (znlt (N := 8) (by omega) c_4) (by decide)) d_D_reset_14 (fun H locs hP hD hS => ?_)
    have hP : va_P D vwCl (wD h c (u_2.1, u_2.2.1, u_2.2.2.1, upd u_2.2.2.2.1 (nI i_1).toNatClampNeg (0 : Int32), u_2.2.2.2.2.1, u_2.2.2.2.2.2)) H := hP
    have hD : va_D A (wD h c (u_2.1, u_2.2.1, u_2.2.2.1, upd u_2.2.2.2.1 (nI i_1).toNatClampNeg (0 : Int32), u_2.2.2.2.2.1, u_2.2.2.2.2.2)) := hD
    refine lv_iinc (v := (nI i_1) + (1 : Int32)) (lv' := [(2, .int ((nI i_1) + (1 : Int32))), (0, .ref (h 20)), (1, .int p0)]) hx hb d_D_reset_15 hl (k := 2) rfl rfl (by decide) rfl (fun ls hl => ?_)
    refine lv_goto (tgt := 2) hx hb d_D_reset_18 (by decide) ?_
    have hl : lv_has ls 3 [(0, .ref (h 20)), (1, .int p0), (2, .int (nI (i_1 + 1)))] := by rw [← nI_1 i_1]; exact (lv_sub hl [1, 2, 0] rfl)
    exact ih (i_1 + 1, (u_2.1, u_2.2.1, u_2.2.2.1, upd u_2.2.2.2.1 (nI i_1).toNatClampNeg (0 : Int32), u_2.2.2.2.2.1, u_2.2.2.2.2.2)) _ _ _ ⟨by rw [hF_3]; simp only [fl_D_reset_2, if_neg c_4], ⟨by omega, znlt (N := 8) (by omega) c_4⟩, hP, hD, hS, hl⟩
  · obtain ⟨i_1, u_2⟩ := v9
    obtain ⟨-, hI, -⟩ := hG
    dsimp only at hI
    exact (by omega)
theorem d_D_state_0 : decode c_D_state 0 = .ok (.aload_n 0, 1) := by decide +kernel
theorem d_D_state_1 : decode c_D_state 1 = .ok (.iconst 0, 1) := by decide +kernel
theorem d_D_state_2 : decode c_D_state 2 = .ok (.putfield 228, 3) := by decide +kernel
theorem d_D_state_5 : decode c_D_state 5 = .ok (.aload_n 0, 1) := by decide +kernel
theorem d_D_state_6 : decode c_D_state 6 = .ok (.iload_n 1, 1) := by decide +kernel
theorem d_D_state_7 : decode c_D_state 7 = .ok (.i2l, 1) := by decide +kernel
theorem d_D_state_8 : decode c_D_state 8 = .ok (.lconst 0, 1) := by decide +kernel
theorem d_D_state_9 : decode c_D_state 9 = .ok (.ldc2_w 398, 3) := by decide +kernel
theorem d_D_state_12 : decode c_D_state 12 = .ok (.invokestatic 282, 3) := by decide +kernel
theorem d_D_state_15 : decode c_D_state 15 = .ok (.ifCond .ne 7, 3) := by decide +kernel
theorem d_D_state_18 : decode c_D_state 18 = .ok (.iconst 1, 1) := by decide +kernel
theorem d_D_state_19 : decode c_D_state 19 = .ok (.goto 4, 3) := by decide +kernel
theorem d_D_state_22 : decode c_D_state 22 = .ok (.iconst 0, 1) := by decide +kernel
theorem d_D_state_23 : decode c_D_state 23 = .ok (.iconst 1, 1) := by decide +kernel
theorem d_D_state_24 : decode c_D_state 24 = .ok (.invokevirtual 290, 3) := by decide +kernel
theorem d_D_state_27 : decode c_D_state 27 = .ok (.ifCond .eq 5, 3) := by decide +kernel
theorem d_D_state_30 : decode c_D_state 30 = .ok (.iconst 0, 1) := by decide +kernel
theorem d_D_state_31 : decode c_D_state 31 = .ok (.ireturn, 1) := by decide +kernel
theorem d_D_state_32 : decode c_D_state 32 = .ok (.iload_n 1, 1) := by decide +kernel
theorem d_D_state_33 : decode c_D_state 33 = .ok (.tableswitch 171 0 10 #[59, 64, 69, 74, 113, 118, 123, 151, 156, 161, 166], 59) := by decide +kernel
theorem d_D_state_92 : decode c_D_state 92 = .ok (.aload_n 0, 1) := by decide +kernel
theorem d_D_state_93 : decode c_D_state 93 = .ok (.getfield 231, 3) := by decide +kernel
theorem d_D_state_96 : decode c_D_state 96 = .ok (.ireturn, 1) := by decide +kernel
theorem d_D_state_97 : decode c_D_state 97 = .ok (.aload_n 0, 1) := by decide +kernel
theorem d_D_state_98 : decode c_D_state 98 = .ok (.getfield 234, 3) := by decide +kernel
theorem d_D_state_101 : decode c_D_state 101 = .ok (.ireturn, 1) := by decide +kernel
theorem d_D_state_102 : decode c_D_state 102 = .ok (.aload_n 0, 1) := by decide +kernel
theorem d_D_state_103 : decode c_D_state 103 = .ok (.getfield 237, 3) := by decide +kernel
theorem d_D_state_106 : decode c_D_state 106 = .ok (.ireturn, 1) := by decide +kernel
theorem d_D_state_107 : decode c_D_state 107 = .ok (.bipush 8, 2) := by decide +kernel
theorem d_D_state_109 : decode c_D_state 109 = .ok (.aload_n 0, 1) := by decide +kernel
theorem d_D_state_110 : decode c_D_state 110 = .ok (.getfield 255, 3) := by decide +kernel
theorem d_D_state_113 : decode c_D_state 113 = .ok (.invokestatic 355, 3) := by decide +kernel
theorem d_D_state_116 : decode c_D_state 116 = .ok (.imul, 1) := by decide +kernel
theorem d_D_state_117 : decode c_D_state 117 = .ok (.iconst 4, 1) := by decide +kernel
theorem d_D_state_118 : decode c_D_state 118 = .ok (.aload_n 0, 1) := by decide +kernel
theorem d_D_state_119 : decode c_D_state 119 = .ok (.getfield 259, 3) := by decide +kernel
theorem d_D_state_122 : decode c_D_state 122 = .ok (.invokestatic 355, 3) := by decide +kernel
theorem d_D_state_125 : decode c_D_state 125 = .ok (.imul, 1) := by decide +kernel
theorem d_D_state_126 : decode c_D_state 126 = .ok (.iadd, 1) := by decide +kernel
theorem d_D_state_127 : decode c_D_state 127 = .ok (.iconst 2, 1) := by decide +kernel
theorem d_D_state_128 : decode c_D_state 128 = .ok (.aload_n 0, 1) := by decide +kernel
theorem d_D_state_129 : decode c_D_state 129 = .ok (.getfield 262, 3) := by decide +kernel
theorem d_D_state_132 : decode c_D_state 132 = .ok (.invokestatic 355, 3) := by decide +kernel
theorem d_D_state_135 : decode c_D_state 135 = .ok (.imul, 1) := by decide +kernel
theorem d_D_state_136 : decode c_D_state 136 = .ok (.iadd, 1) := by decide +kernel
theorem d_D_state_137 : decode c_D_state 137 = .ok (.aload_n 0, 1) := by decide +kernel
theorem d_D_state_138 : decode c_D_state 138 = .ok (.getfield 265, 3) := by decide +kernel
theorem d_D_state_141 : decode c_D_state 141 = .ok (.invokestatic 355, 3) := by decide +kernel
theorem d_D_state_144 : decode c_D_state 144 = .ok (.iadd, 1) := by decide +kernel
theorem d_D_state_145 : decode c_D_state 145 = .ok (.ireturn, 1) := by decide +kernel
theorem d_D_state_146 : decode c_D_state 146 = .ok (.aload_n 0, 1) := by decide +kernel
theorem d_D_state_147 : decode c_D_state 147 = .ok (.getfield 240, 3) := by decide +kernel
theorem d_D_state_150 : decode c_D_state 150 = .ok (.ireturn, 1) := by decide +kernel
theorem d_D_state_151 : decode c_D_state 151 = .ok (.aload_n 0, 1) := by decide +kernel
theorem d_D_state_152 : decode c_D_state 152 = .ok (.getfield 243, 3) := by decide +kernel
theorem d_D_state_155 : decode c_D_state 155 = .ok (.ireturn, 1) := by decide +kernel
theorem d_D_state_156 : decode c_D_state 156 = .ok (.iconst 4, 1) := by decide +kernel
theorem d_D_state_157 : decode c_D_state 157 = .ok (.aload_n 0, 1) := by decide +kernel
theorem d_D_state_158 : decode c_D_state 158 = .ok (.getfield 268, 3) := by decide +kernel
theorem d_D_state_161 : decode c_D_state 161 = .ok (.invokestatic 355, 3) := by decide +kernel
theorem d_D_state_164 : decode c_D_state 164 = .ok (.imul, 1) := by decide +kernel
theorem d_D_state_165 : decode c_D_state 165 = .ok (.iconst 2, 1) := by decide +kernel
theorem d_D_state_166 : decode c_D_state 166 = .ok (.aload_n 0, 1) := by decide +kernel
theorem d_D_state_167 : decode c_D_state 167 = .ok (.getfield 271, 3) := by decide +kernel
theorem d_D_state_170 : decode c_D_state 170 = .ok (.invokestatic 355, 3) := by decide +kernel
theorem d_D_state_173 : decode c_D_state 173 = .ok (.imul, 1) := by decide +kernel
theorem d_D_state_174 : decode c_D_state 174 = .ok (.iadd, 1) := by decide +kernel
theorem d_D_state_175 : decode c_D_state 175 = .ok (.aload_n 0, 1) := by decide +kernel
theorem d_D_state_176 : decode c_D_state 176 = .ok (.getfield 274, 3) := by decide +kernel
theorem d_D_state_179 : decode c_D_state 179 = .ok (.invokestatic 355, 3) := by decide +kernel
theorem d_D_state_182 : decode c_D_state 182 = .ok (.iadd, 1) := by decide +kernel
theorem d_D_state_183 : decode c_D_state 183 = .ok (.ireturn, 1) := by decide +kernel
theorem d_D_state_184 : decode c_D_state 184 = .ok (.aload_n 0, 1) := by decide +kernel
theorem d_D_state_185 : decode c_D_state 185 = .ok (.getfield 246, 3) := by decide +kernel
theorem d_D_state_188 : decode c_D_state 188 = .ok (.ireturn, 1) := by decide +kernel
theorem d_D_state_189 : decode c_D_state 189 = .ok (.aload_n 0, 1) := by decide +kernel
theorem d_D_state_190 : decode c_D_state 190 = .ok (.getfield 221, 3) := by decide +kernel
theorem d_D_state_193 : decode c_D_state 193 = .ok (.ireturn, 1) := by decide +kernel
theorem d_D_state_194 : decode c_D_state 194 = .ok (.aload_n 0, 1) := by decide +kernel
theorem d_D_state_195 : decode c_D_state 195 = .ok (.getfield 249, 3) := by decide +kernel
theorem d_D_state_198 : decode c_D_state 198 = .ok (.ireturn, 1) := by decide +kernel
theorem d_D_state_199 : decode c_D_state 199 = .ok (.aload_n 0, 1) := by decide +kernel
theorem d_D_state_200 : decode c_D_state 200 = .ok (.getfield 252, 3) := by decide +kernel
theorem d_D_state_203 : decode c_D_state 203 = .ok (.ireturn, 1) := by decide +kernel
theorem d_D_state_204 : decode c_D_state 204 = .ok (.aload_n 0, 1) := by decide +kernel
theorem d_D_state_205 : decode c_D_state 205 = .ok (.getfield 277, 3) := by decide +kernel
theorem d_D_state_208 : decode c_D_state 208 = .ok (.invokestatic 355, 3) := by decide +kernel
theorem d_D_state_211 : decode c_D_state 211 = .ok (.ireturn, 1) := by decide +kernel
theorem kd_D_state : (y_D_state).cls = "WindowMachineModel" ∧ (y_D_state).cls ≠ "java/lang/invoke/MethodHandle" ∧ (y_D_state).cls ≠ "java/lang/invoke/VarHandle" ∧ (parseMethodDescriptor (y_D_state).desc).map (fun d => d.parameters.length) = some 1 := by decide +kernel
def m_state (st : SD) (p0 : Int32) : Int32 × SD := (let r_1 := m_in p0.toInt64 (0 : Int64) (11 : Int64); (let x_2 := (if r_1 = (0 : Int32) then (1 : Int32) else (0 : Int32)); (let r_5 := (m_fails (upd st.1 0 (0 : Int32), st.2.1, st.2.2.1, st.2.2.2.1, st.2.2.2.2.1, st.2.2.2.2.2) x_2 (1 : Int32)).1; (let u_5 := (m_fails (upd st.1 0 (0 : Int32), st.2.1, st.2.2.1, st.2.2.2.1, st.2.2.2.2.1, st.2.2.2.2.2) x_2 (1 : Int32)).2; (if r_5 = (0 : Int32) then (if p0 = (0 : Int32) then (u_5.1 4, u_5) else (if p0 = (1 : Int32) then (u_5.1 5, u_5) else (if p0 = (2 : Int32) then (u_5.1 6, u_5) else (if p0 = (3 : Int32) then (let r_12 := m_bit (u_5.1 13); (let r_13 := m_bit (u_5.1 14); (let r_14 := m_bit (u_5.1 15); (let r_15 := m_bit (u_5.1 16); (((((8 : Int32) * r_12) + ((4 : Int32) * r_13)) + ((2 : Int32) * r_14)) + r_15, u_5))))) else (if p0 = (4 : Int32) then (u_5.1 7, u_5) else (if p0 = (5 : Int32) then (u_5.1 8, u_5) else (if p0 = (6 : Int32) then (let r_19 := m_bit (u_5.1 17); (let r_20 := m_bit (u_5.1 18); (let r_21 := m_bit (u_5.1 19); ((((4 : Int32) * r_19) + ((2 : Int32) * r_20)) + r_21, u_5)))) else (if p0 = (7 : Int32) then (u_5.1 9, u_5) else (if p0 = (8 : Int32) then (u_5.1 10, u_5) else (if p0 = (9 : Int32) then (u_5.1 11, u_5) else (if p0 = (10 : Int32) then (u_5.1 12, u_5) else (let r_26 := m_bit (u_5.1 20); (r_26, u_5))))))))))))) else ((0 : Int32), u_5))))))
set_option maxHeartbeats 4000000 in
set_option maxRecDepth 100000 in
theorem mt_D_state (l : Launch) (D : va_G) (h : Nat → Nat) (c : Nat → ClassId) (sz : Nat) (st : SD) (p0 : Int32) : Met l y_D_state w_D_state ({ frames := 1, cells := 0, slots := 0, locals := 25 }) (va_Pc [.ref (h 20), .int p0] (zw_pre D vwCl [(c 21, .long), (c 22, .int), (c 23, .int), (c 24, .int), (c 25, .int), (c 26, .int), (c 27, .int), (c 28, .int)] sz (wD h c st) (fun _ => True))) (va_Qi (fun r (u : SD) => r = (m_state st p0).1 ∧ u = (m_state st p0).2) (fun u t => zw_at D vwCl (va_A (wD h c st) sz) ((fun (u : SD) => wD h c u) u) t) (va_A (wD h c st) sz)) 0 0 (va_A (wD h c st) sz) := by
  refine zm (Qf := fun A => va_Qi (fun r (u : SD) => r = (m_state st p0).1 ∧ u = (m_state st p0).2) (fun u t => zw_at D vwCl A ((fun (u : SD) => wD h c u) u) t) A) (Zf := fun _ _ => True) (cc := c_D_state) (nL := 2) (ret := (some .int)) (by decide) rfl (Nat.le_of_ble_eq_true rfl) ?_
  intro p e s m below meth c9 A H locs ls hx hb hml hown hts hr hlocks hA hK hP hD hS hZ hl
  have hl : lv_has ls 2 [(0, .ref (h 20)), (1, .int p0)] := hl
  have ht : ∀ w9 ∈ zT, w9.before _ s = true := fun w9 h9 => hts w9 (List.mem_cons_of_mem _ h9)
  refine lv_aload_n hx hb d_D_state_0 rfl (lv_at hl 0 rfl) ?_
  refine lv_iconst (v := (0 : Int32)) hx hb d_D_state_1 (by decide) ?_
  refine va_put (D := D) (ci := 6) (v := .int (0 : Int32)) (ty := .int) (C := "WindowMachineModel") (T := T_D) (N := 31) hx hb ht zi_D ty_D tyok_D nm_D hown hK hP hD hS 0 rfl rfl 3 (by decide) (ht _ zw_857) (fun _ h9 => h9) rfl (by decide +kernel) rfl rfl (Nat.le_of_ble_eq_true rfl) d_D_state_2 (fun H locs hP hD hS => ?_)
  have hP : va_P D vwCl (wD h c (upd st.1 0 (0 : Int32), st.2.1, st.2.2.1, st.2.2.2.1, st.2.2.2.2.1, st.2.2.2.2.2)) H := hP
  have hD : va_D A (wD h c (upd st.1 0 (0 : Int32), st.2.1, st.2.2.1, st.2.2.2.1, st.2.2.2.2.1, st.2.2.2.2.2)) := hD
  refine lv_aload_n hx hb d_D_state_5 rfl (lv_at hl 0 rfl) ?_
  refine lv_iload_n hx hb d_D_state_6 rfl (lv_at hl 1 rfl) ?_
  refine lv_i2l (v := p0.toInt64) hx hb d_D_state_7 rfl ?_
  refine lv_lconst (v := (0 : Int64)) hx hb d_D_state_8 (by decide) ?_
  refine lv_ldc2 (v := (11 : Int64)) hx hb hown (ht _ zw_1090) d_D_state_9 ?_
  refine zc_i (w2 := fun _ => wD h c (upd st.1 0 (0 : Int32), st.2.1, st.2.2.1, st.2.2.2.1, st.2.2.2.2.1, st.2.2.2.2.2)) (va_runS (As := [.long p0.toInt64, .long (0 : Int64), .long (11 : Int64)]) (rest := [.ref (h 20)]) ⟨hx, hb, hml, hown, ht⟩ (mt_D_in l D H.size p0.toInt64 (0 : Int64) (11 : Int64)) (cwS 3 ht (zgS zw_961 zw_962 zw_7 zw_963) rfl rfl rfl kd_D_in ⟨Nat.le_of_ble_eq_true rfl, Nat.le_of_ble_eq_true rfl⟩) ⟨zw_blind zw_tt, zw_go (hP.sub (ws' := []) [] rfl) (hD.sub (ws' := []) [] (by decide) rfl) (hK.sub (tys' := []) [] rfl) (fun _ _ _ => trivial)⟩ rfl rfl hl.1 rfl (lv_room (Nat.le_of_ble_eq_true rfl)) d_D_state_12 ⟨Nat.le_of_ble_eq_true rfl, Nat.le_of_ble_eq_true rfl⟩) hP hD hS hA [] [0, 1, 2, 3, 4, 5, 6, 7, 8] [0, 1, 2, 3, 4, 5, 6, 7, 8] rfl rfl (by decide) (by decide) (by decide) (fun _ => rfl) (fun r_1 _ H locs hw hP hD hS => ?_)
  have er_1 := hw
  refine zcut (X := Int32) (G := fun v9 H locs ls => v9 = (if r_1 = (0 : Int32) then (1 : Int32) else (0 : Int32)) ∧ va_P D vwCl (wD h c (upd st.1 0 (0 : Int32), st.2.1, st.2.2.1, st.2.2.2.1, st.2.2.2.2.1, st.2.2.2.2.2)) H ∧ va_D A (wD h c (upd st.1 0 (0 : Int32), st.2.1, st.2.2.1, st.2.2.2.1, st.2.2.2.2.1, st.2.2.2.2.2)) ∧ va_S A s.heap H locs ∧ lv_has ls 2 [(0, .ref (h 20)), (1, .int p0)]) (fr := fun v9 ls => F0 m 23 ls [.int v9, .ref (h 20)]) (fun J_3 => ?_) (fun v9 H locs ls hG => ?_)
  · refine lv_if_ne (tgt := 22) hx hb d_D_state_15 (by decide) (fun c_4 => ?_) (fun c_4 => ?_)
    · refine lv_iconst (v := (0 : Int32)) hx hb d_D_state_22 (by decide) ?_
      exact J_3 (0 : Int32) _ _ _ ⟨by simp only [if_neg c_4], hP, hD, hS, hl⟩
    refine lv_iconst (v := (1 : Int32)) hx hb d_D_state_18 (by decide) ?_
    refine lv_goto (tgt := 23) hx hb d_D_state_19 (by decide) ?_
    exact J_3 (1 : Int32) _ _ _ ⟨by simp only [if_pos c_4], hP, hD, hS, hl⟩
  obtain ⟨x_2, rfl⟩ : ∃ z, z = v9 := ⟨_, rfl⟩
  obtain ⟨ex_2, hP, hD, hS, hl⟩ := hG
  have zbx_2 : zB x_2 := by rw [ex_2]; repeat' first | with_reducible exact zB0 | with_reducible exact zB1 | with_reducible assumption | with_reducible refine zB_ite ?_ ?_
  refine lv_iconst (v := (1 : Int32)) hx hb d_D_state_23 (by decide) ?_
  refine zc_i (w2 := fun u9 => wD h c u9) (va_runV (As := [.int x_2, .int (1 : Int32)]) (rest := []) ⟨hx, hb, hml, hown, ht⟩ (mt_D_fails l D h c H.size (upd st.1 0 (0 : Int32), st.2.1, st.2.2.1, st.2.2.2.1, st.2.2.2.2.1, st.2.2.2.2.2) x_2 (1 : Int32)) (cwV 2 ht (zgV zw_964 zw_966 zs_53 zw_7 zw_967) rfl rfl rfl kd_D_fails ⟨Nat.le_of_ble_eq_true rfl, Nat.le_of_ble_eq_true rfl⟩) ⟨zw_blind zw_tt, va_recv (hK.sub (tys' := [(c 21, .long), (c 22, .int), (c 23, .int), (c 24, .int), (c 25, .int), (c 26, .int), (c 27, .int), (c 28, .int)]) [0, 1, 2, 3, 4, 5, 6, 7] rfl) (hP.sub (ws' := wD h c (upd st.1 0 (0 : Int32), st.2.1, st.2.2.1, st.2.2.2.1, st.2.2.2.2.1, st.2.2.2.2.2)) [0, 1, 2, 3, 4, 5, 6, 7, 8] rfl) (ci := 6) (q0 := 0) rfl rfl, zw_go (hP.sub (ws' := wD h c (upd st.1 0 (0 : Int32), st.2.1, st.2.2.1, st.2.2.2.1, st.2.2.2.2.1, st.2.2.2.2.2)) [0, 1, 2, 3, 4, 5, 6, 7, 8] rfl) (hD.sub (ws' := wD h c (upd st.1 0 (0 : Int32), st.2.1, st.2.2.1, st.2.2.2.1, st.2.2.2.2.1, st.2.2.2.2.2)) [0, 1, 2, 3, 4, 5, 6, 7, 8] (by decide) rfl) (hK.sub (tys' := [(c 21, .long), (c 22, .int), (c 23, .int), (c 24, .int), (c 25, .int), (c 26, .int), (c 27, .int), (c 28, .int)]) [0, 1, 2, 3, 4, 5, 6, 7] rfl) (fun _ _ _ => trivial)⟩ rfl rfl hl.1 rfl (lv_room (Nat.le_of_ble_eq_true rfl)) d_D_state_24 ⟨Nat.le_of_ble_eq_true rfl, Nat.le_of_ble_eq_true rfl⟩) hP hD hS hA [0, 1, 2, 3, 4, 5, 6, 7, 8] [] [0, 1, 2, 3, 4, 5, 6, 7, 8] rfl rfl (by decide) (by decide) (by decide) (fun _ => rfl) (fun r_5 u_5 H locs hw hP hD hS => ?_)
  obtain ⟨er_5, eu_5⟩ := hw
  refine lv_if_eq (tgt := 32) hx hb d_D_state_27 (by decide) (fun c_6 => ?_) (fun c_6 => ?_)
  · refine lv_iload_n hx hb d_D_state_32 rfl (lv_at hl 1 rfl) ?_
    by_cases c_8 : p0 = (0 : Int32)
    · refine lv_tableIn (tgt := 92) hx hb d_D_state_33 (by rw [c_8]; decide) (by rw [c_8]; decide) (by rw [c_8]; rfl) (by decide) ?_
      refine lv_aload_n hx hb d_D_state_92 rfl (lv_at hl 0 rfl) ?_
      refine va_get (D := D) (ci := 6) (v := .int (u_5.1 4)) (C := "WindowMachineModel") (T := T_D) (N := 31) hx hb ht zi_D hown hK hP 0 rfl rfl 12 (by decide) (ht _ zw_866) (fun _ h9 => h9) rfl d_D_state_93 ?_
      exact zl_i (u := u_5) hx hb hr hlocks hS hP hD (⟨by simp only [m_state, ← er_1, ← ex_2, ← er_5, ← eu_5, if_pos c_6, if_pos c_8], by simp only [m_state, ← er_1, ← ex_2, ← er_5, ← eu_5, if_pos c_6, if_pos c_8]⟩) d_D_state_96
    by_cases c_9 : p0 = (1 : Int32)
    · refine lv_tableIn (tgt := 97) hx hb d_D_state_33 (by rw [c_9]; decide) (by rw [c_9]; decide) (by rw [c_9]; rfl) (by decide) ?_
      refine lv_aload_n hx hb d_D_state_97 rfl (lv_at hl 0 rfl) ?_
      refine va_get (D := D) (ci := 6) (v := .int (u_5.1 5)) (C := "WindowMachineModel") (T := T_D) (N := 31) hx hb ht zi_D hown hK hP 0 rfl rfl 13 (by decide) (ht _ zw_867) (fun _ h9 => h9) rfl d_D_state_98 ?_
      exact zl_i (u := u_5) hx hb hr hlocks hS hP hD (⟨by simp only [m_state, ← er_1, ← ex_2, ← er_5, ← eu_5, if_pos c_6, if_neg c_8, if_pos c_9], by simp only [m_state, ← er_1, ← ex_2, ← er_5, ← eu_5, if_pos c_6, if_neg c_8, if_pos c_9]⟩) d_D_state_101
    by_cases c_10 : p0 = (2 : Int32)
    · refine lv_tableIn (tgt := 102) hx hb d_D_state_33 (by rw [c_10]; decide) (by rw [c_10]; decide) (by rw [c_10]; rfl) (by decide) ?_
      refine lv_aload_n hx hb d_D_state_102 rfl (lv_at hl 0 rfl) ?_
      refine va_get (D := D) (ci := 6) (v := .int (u_5.1 6)) (C := "WindowMachineModel") (T := T_D) (N := 31) hx hb ht zi_D hown hK hP 0 rfl rfl 14 (by decide) (ht _ zw_868) (fun _ h9 => h9) rfl d_D_state_103 ?_
      exact zl_i (u := u_5) hx hb hr hlocks hS hP hD (⟨by simp only [m_state, ← er_1, ← ex_2, ← er_5, ← eu_5, if_pos c_6, if_neg c_8, if_neg c_9, if_pos c_10], by simp only [m_state, ← er_1, ← ex_2, ← er_5, ← eu_5, if_pos c_6, if_neg c_8, if_neg c_9, if_pos c_10]⟩) d_D_state_106
    by_cases c_11 : p0 = (3 : Int32)
    · refine lv_tableIn (tgt := 107) hx hb d_D_state_33 (by rw [c_11]; decide) (by rw [c_11]; decide) (by rw [c_11]; rfl) (by decide) ?_
      refine lv_bipush (v := (8 : Int32)) hx hb d_D_state_107 (by decide) ?_
      refine lv_aload_n hx hb d_D_state_109 rfl (lv_at hl 0 rfl) ?_
      refine va_get (D := D) (ci := 6) (v := .int (u_5.1 13)) (C := "WindowMachineModel") (T := T_D) (N := 31) hx hb ht zi_D hown hK hP 0 rfl rfl 21 (by decide) (ht _ zw_875) (fun _ h9 => h9) rfl d_D_state_110 ?_
      refine zc_i (w2 := fun _ => wD h c u_5) (va_runS (As := [.int (u_5.1 13)]) (rest := [.int (8 : Int32)]) ⟨hx, hb, hml, hown, ht⟩ (mt_D_bit l D H.size (u_5.1 13)) (cwS 1 ht (zgS zw_1043 zw_1044 zw_7 zw_1045) rfl rfl rfl kd_D_bit ⟨Nat.le_of_ble_eq_true rfl, Nat.le_of_ble_eq_true rfl⟩) ⟨zw_blind zw_tt, zw_go (hP.sub (ws' := []) [] rfl) (hD.sub (ws' := []) [] (by decide) rfl) (hK.sub (tys' := []) [] rfl) (fun _ _ _ => trivial)⟩ rfl rfl hl.1 rfl (lv_room (Nat.le_of_ble_eq_true rfl)) d_D_state_113 ⟨Nat.le_of_ble_eq_true rfl, Nat.le_of_ble_eq_true rfl⟩) hP hD hS hA [] [0, 1, 2, 3, 4, 5, 6, 7, 8] [0, 1, 2, 3, 4, 5, 6, 7, 8] rfl rfl (by decide) (by decide) (by decide) (fun _ => rfl) (fun r_12 _ H locs hw hP hD hS => ?_)
      have er_12 := hw
      refine lv_imul hx hb d_D_state_116 ?_
      refine lv_iconst (v := (4 : Int32)) hx hb d_D_state_117 (by decide) ?_
      refine lv_aload_n hx hb d_D_state_118 rfl (lv_at hl 0 rfl) ?_
      refine va_get (D := D) (ci := 6) (v := .int (u_5.1 14)) (C := "WindowMachineModel") (T := T_D) (N := 31) hx hb ht zi_D hown hK hP 0 rfl rfl 22 (by decide) (ht _ zw_876) (fun _ h9 => h9) rfl d_D_state_119 ?_
      refine zc_i (w2 := fun _ => wD h c u_5) (va_runS (As := [.int (u_5.1 14)]) (rest := [.int (4 : Int32), .int ((8 : Int32) * r_12)]) ⟨hx, hb, hml, hown, ht⟩ (mt_D_bit l D H.size (u_5.1 14)) (cwS 1 ht (zgS zw_1043 zw_1044 zw_7 zw_1045) rfl rfl rfl kd_D_bit ⟨Nat.le_of_ble_eq_true rfl, Nat.le_of_ble_eq_true rfl⟩) ⟨zw_blind zw_tt, zw_go (hP.sub (ws' := []) [] rfl) (hD.sub (ws' := []) [] (by decide) rfl) (hK.sub (tys' := []) [] rfl) (fun _ _ _ => trivial)⟩ rfl rfl hl.1 rfl (lv_room (Nat.le_of_ble_eq_true rfl)) d_D_state_122 ⟨Nat.le_of_ble_eq_true rfl, Nat.le_of_ble_eq_true rfl⟩) hP hD hS hA [] [0, 1, 2, 3, 4, 5, 6, 7, 8] [0, 1, 2, 3, 4, 5, 6, 7, 8] rfl rfl (by decide) (by decide) (by decide) (fun _ => rfl) (fun r_13 _ H locs hw hP hD hS => ?_)
      have er_13 := hw
      refine lv_imul hx hb d_D_state_125 ?_
      refine lv_iadd hx hb d_D_state_126 ?_
      refine lv_iconst (v := (2 : Int32)) hx hb d_D_state_127 (by decide) ?_
      refine lv_aload_n hx hb d_D_state_128 rfl (lv_at hl 0 rfl) ?_
      refine va_get (D := D) (ci := 6) (v := .int (u_5.1 15)) (C := "WindowMachineModel") (T := T_D) (N := 31) hx hb ht zi_D hown hK hP 0 rfl rfl 23 (by decide) (ht _ zw_877) (fun _ h9 => h9) rfl d_D_state_129 ?_
      refine zc_i (w2 := fun _ => wD h c u_5) (va_runS (As := [.int (u_5.1 15)]) (rest := [.int (2 : Int32), .int (((8 : Int32) * r_12) + ((4 : Int32) * r_13))]) ⟨hx, hb, hml, hown, ht⟩ (mt_D_bit l D H.size (u_5.1 15)) (cwS 1 ht (zgS zw_1043 zw_1044 zw_7 zw_1045) rfl rfl rfl kd_D_bit ⟨Nat.le_of_ble_eq_true rfl, Nat.le_of_ble_eq_true rfl⟩) ⟨zw_blind zw_tt, zw_go (hP.sub (ws' := []) [] rfl) (hD.sub (ws' := []) [] (by decide) rfl) (hK.sub (tys' := []) [] rfl) (fun _ _ _ => trivial)⟩ rfl rfl hl.1 rfl (lv_room (Nat.le_of_ble_eq_true rfl)) d_D_state_132 ⟨Nat.le_of_ble_eq_true rfl, Nat.le_of_ble_eq_true rfl⟩) hP hD hS hA [] [0, 1, 2, 3, 4, 5, 6, 7, 8] [0, 1, 2, 3, 4, 5, 6, 7, 8] rfl rfl (by decide) (by decide) (by decide) (fun _ => rfl) (fun r_14 _ H locs hw hP hD hS => ?_)
      have er_14 := hw
      refine lv_imul hx hb d_D_state_135 ?_
      refine lv_iadd hx hb d_D_state_136 ?_
      refine lv_aload_n hx hb d_D_state_137 rfl (lv_at hl 0 rfl) ?_
      refine va_get (D := D) (ci := 6) (v := .int (u_5.1 16)) (C := "WindowMachineModel") (T := T_D) (N := 31) hx hb ht zi_D hown hK hP 0 rfl rfl 24 (by decide) (ht _ zw_878) (fun _ h9 => h9) rfl d_D_state_138 ?_
      refine zc_i (w2 := fun _ => wD h c u_5) (va_runS (As := [.int (u_5.1 16)]) (rest := [.int ((((8 : Int32) * r_12) + ((4 : Int32) * r_13)) + ((2 : Int32) * r_14))]) ⟨hx, hb, hml, hown, ht⟩ (mt_D_bit l D H.size (u_5.1 16)) (cwS 1 ht (zgS zw_1043 zw_1044 zw_7 zw_1045) rfl rfl rfl kd_D_bit ⟨Nat.le_of_ble_eq_true rfl, Nat.le_of_ble_eq_true rfl⟩) ⟨zw_blind zw_tt, zw_go (hP.sub (ws' := []) [] rfl) (hD.sub (ws' := []) [] (by decide) rfl) (hK.sub (tys' := []) [] rfl) (fun _ _ _ => trivial)⟩ rfl rfl hl.1 rfl (lv_room (Nat.le_of_ble_eq_true rfl)) d_D_state_141 ⟨Nat.le_of_ble_eq_true rfl, Nat.le_of_ble_eq_true rfl⟩) hP hD hS hA [] [0, 1, 2, 3, 4, 5, 6, 7, 8] [0, 1, 2, 3, 4, 5, 6, 7, 8] rfl rfl (by decide) (by decide) (by decide) (fun _ => rfl) (fun r_15 _ H locs hw hP hD hS => ?_)
      have er_15 := hw
      refine lv_iadd hx hb d_D_state_144 ?_
      exact zl_i (u := u_5) hx hb hr hlocks hS hP hD (⟨by simp only [m_state, ← er_1, ← ex_2, ← er_5, ← eu_5, ← er_12, ← er_13, ← er_14, ← er_15, if_pos c_6, if_neg c_8, if_neg c_9, if_neg c_10, if_pos c_11], by simp only [m_state, ← er_1, ← ex_2, ← er_5, ← eu_5, ← er_12, ← er_13, ← er_14, ← er_15, if_pos c_6, if_neg c_8, if_neg c_9, if_neg c_10, if_pos c_11]⟩) d_D_state_145
    by_cases c_16 : p0 = (4 : Int32)
    · refine lv_tableIn (tgt := 146) hx hb d_D_state_33 (by rw [c_16]; decide) (by rw [c_16]; decide) (by rw [c_16]; rfl) (by decide) ?_
      refine lv_aload_n hx hb d_D_state_146 rfl (lv_at hl 0 rfl) ?_
      refine va_get (D := D) (ci := 6) (v := .int (u_5.1 7)) (C := "WindowMachineModel") (T := T_D) (N := 31) hx hb ht zi_D hown hK hP 0 rfl rfl 15 (by decide) (ht _ zw_869) (fun _ h9 => h9) rfl d_D_state_147 ?_
      exact zl_i (u := u_5) hx hb hr hlocks hS hP hD (⟨by simp only [m_state, ← er_1, ← ex_2, ← er_5, ← eu_5, if_pos c_6, if_neg c_8, if_neg c_9, if_neg c_10, if_neg c_11, if_pos c_16], by simp only [m_state, ← er_1, ← ex_2, ← er_5, ← eu_5, if_pos c_6, if_neg c_8, if_neg c_9, if_neg c_10, if_neg c_11, if_pos c_16]⟩) d_D_state_150
    by_cases c_17 : p0 = (5 : Int32)
    · refine lv_tableIn (tgt := 151) hx hb d_D_state_33 (by rw [c_17]; decide) (by rw [c_17]; decide) (by rw [c_17]; rfl) (by decide) ?_
      refine lv_aload_n hx hb d_D_state_151 rfl (lv_at hl 0 rfl) ?_
      refine va_get (D := D) (ci := 6) (v := .int (u_5.1 8)) (C := "WindowMachineModel") (T := T_D) (N := 31) hx hb ht zi_D hown hK hP 0 rfl rfl 16 (by decide) (ht _ zw_870) (fun _ h9 => h9) rfl d_D_state_152 ?_
      exact zl_i (u := u_5) hx hb hr hlocks hS hP hD (⟨by simp only [m_state, ← er_1, ← ex_2, ← er_5, ← eu_5, if_pos c_6, if_neg c_8, if_neg c_9, if_neg c_10, if_neg c_11, if_neg c_16, if_pos c_17], by simp only [m_state, ← er_1, ← ex_2, ← er_5, ← eu_5, if_pos c_6, if_neg c_8, if_neg c_9, if_neg c_10, if_neg c_11, if_neg c_16, if_pos c_17]⟩) d_D_state_155
    by_cases c_18 : p0 = (6 : Int32)
    · refine lv_tableIn (tgt := 156) hx hb d_D_state_33 (by rw [c_18]; decide) (by rw [c_18]; decide) (by rw [c_18]; rfl) (by decide) ?_
      refine lv_iconst (v := (4 : Int32)) hx hb d_D_state_156 (by decide) ?_
      refine lv_aload_n hx hb d_D_state_157 rfl (lv_at hl 0 rfl) ?_
      refine va_get (D := D) (ci := 6) (v := .int (u_5.1 17)) (C := "WindowMachineModel") (T := T_D) (N := 31) hx hb ht zi_D hown hK hP 0 rfl rfl 25 (by decide) (ht _ zw_879) (fun _ h9 => h9) rfl d_D_state_158 ?_
      refine zc_i (w2 := fun _ => wD h c u_5) (va_runS (As := [.int (u_5.1 17)]) (rest := [.int (4 : Int32)]) ⟨hx, hb, hml, hown, ht⟩ (mt_D_bit l D H.size (u_5.1 17)) (cwS 1 ht (zgS zw_1043 zw_1044 zw_7 zw_1045) rfl rfl rfl kd_D_bit ⟨Nat.le_of_ble_eq_true rfl, Nat.le_of_ble_eq_true rfl⟩) ⟨zw_blind zw_tt, zw_go (hP.sub (ws' := []) [] rfl) (hD.sub (ws' := []) [] (by decide) rfl) (hK.sub (tys' := []) [] rfl) (fun _ _ _ => trivial)⟩ rfl rfl hl.1 rfl (lv_room (Nat.le_of_ble_eq_true rfl)) d_D_state_161 ⟨Nat.le_of_ble_eq_true rfl, Nat.le_of_ble_eq_true rfl⟩) hP hD hS hA [] [0, 1, 2, 3, 4, 5, 6, 7, 8] [0, 1, 2, 3, 4, 5, 6, 7, 8] rfl rfl (by decide) (by decide) (by decide) (fun _ => rfl) (fun r_19 _ H locs hw hP hD hS => ?_)
      have er_19 := hw
      refine lv_imul hx hb d_D_state_164 ?_
      refine lv_iconst (v := (2 : Int32)) hx hb d_D_state_165 (by decide) ?_
      refine lv_aload_n hx hb d_D_state_166 rfl (lv_at hl 0 rfl) ?_
      refine va_get (D := D) (ci := 6) (v := .int (u_5.1 18)) (C := "WindowMachineModel") (T := T_D) (N := 31) hx hb ht zi_D hown hK hP 0 rfl rfl 26 (by decide) (ht _ zw_880) (fun _ h9 => h9) rfl d_D_state_167 ?_
      refine zc_i (w2 := fun _ => wD h c u_5) (va_runS (As := [.int (u_5.1 18)]) (rest := [.int (2 : Int32), .int ((4 : Int32) * r_19)]) ⟨hx, hb, hml, hown, ht⟩ (mt_D_bit l D H.size (u_5.1 18)) (cwS 1 ht (zgS zw_1043 zw_1044 zw_7 zw_1045) rfl rfl rfl kd_D_bit ⟨Nat.le_of_ble_eq_true rfl, Nat.le_of_ble_eq_true rfl⟩) ⟨zw_blind zw_tt, zw_go (hP.sub (ws' := []) [] rfl) (hD.sub (ws' := []) [] (by decide) rfl) (hK.sub (tys' := []) [] rfl) (fun _ _ _ => trivial)⟩ rfl rfl hl.1 rfl (lv_room (Nat.le_of_ble_eq_true rfl)) d_D_state_170 ⟨Nat.le_of_ble_eq_true rfl, Nat.le_of_ble_eq_true rfl⟩) hP hD hS hA [] [0, 1, 2, 3, 4, 5, 6, 7, 8] [0, 1, 2, 3, 4, 5, 6, 7, 8] rfl rfl (by decide) (by decide) (by decide) (fun _ => rfl) (fun r_20 _ H locs hw hP hD hS => ?_)
      have er_20 := hw
      refine lv_imul hx hb d_D_state_173 ?_
      refine lv_iadd hx hb d_D_state_174 ?_
      refine lv_aload_n hx hb d_D_state_175 rfl (lv_at hl 0 rfl) ?_
      refine va_get (D := D) (ci := 6) (v := .int (u_5.1 19)) (C := "WindowMachineModel") (T := T_D) (N := 31) hx hb ht zi_D hown hK hP 0 rfl rfl 27 (by decide) (ht _ zw_881) (fun _ h9 => h9) rfl d_D_state_176 ?_
      refine zc_i (w2 := fun _ => wD h c u_5) (va_runS (As := [.int (u_5.1 19)]) (rest := [.int (((4 : Int32) * r_19) + ((2 : Int32) * r_20))]) ⟨hx, hb, hml, hown, ht⟩ (mt_D_bit l D H.size (u_5.1 19)) (cwS 1 ht (zgS zw_1043 zw_1044 zw_7 zw_1045) rfl rfl rfl kd_D_bit ⟨Nat.le_of_ble_eq_true rfl, Nat.le_of_ble_eq_true rfl⟩) ⟨zw_blind zw_tt, zw_go (hP.sub (ws' := []) [] rfl) (hD.sub (ws' := []) [] (by decide) rfl) (hK.sub (tys' := []) [] rfl) (fun _ _ _ => trivial)⟩ rfl rfl hl.1 rfl (lv_room (Nat.le_of_ble_eq_true rfl)) d_D_state_179 ⟨Nat.le_of_ble_eq_true rfl, Nat.le_of_ble_eq_true rfl⟩) hP hD hS hA [] [0, 1, 2, 3, 4, 5, 6, 7, 8] [0, 1, 2, 3, 4, 5, 6, 7, 8] rfl rfl (by decide) (by decide) (by decide) (fun _ => rfl) (fun r_21 _ H locs hw hP hD hS => ?_)
      have er_21 := hw
      refine lv_iadd hx hb d_D_state_182 ?_
      exact zl_i (u := u_5) hx hb hr hlocks hS hP hD (⟨by simp only [m_state, ← er_1, ← ex_2, ← er_5, ← eu_5, ← er_19, ← er_20, ← er_21, if_pos c_6, if_neg c_8, if_neg c_9, if_neg c_10, if_neg c_11, if_neg c_16, if_neg c_17, if_pos c_18], by simp only [m_state, ← er_1, ← ex_2, ← er_5, ← eu_5, ← er_19, ← er_20, ← er_21, if_pos c_6, if_neg c_8, if_neg c_9, if_neg c_10, if_neg c_11, if_neg c_16, if_neg c_17, if_pos c_18]⟩) d_D_state_183
    by_cases c_22 : p0 = (7 : Int32)
    · refine lv_tableIn (tgt := 184) hx hb d_D_state_33 (by rw [c_22]; decide) (by rw [c_22]; decide) (by rw [c_22]; rfl) (by decide) ?_
      refine lv_aload_n hx hb d_D_state_184 rfl (lv_at hl 0 rfl) ?_
      refine va_get (D := D) (ci := 6) (v := .int (u_5.1 9)) (C := "WindowMachineModel") (T := T_D) (N := 31) hx hb ht zi_D hown hK hP 0 rfl rfl 17 (by decide) (ht _ zw_871) (fun _ h9 => h9) rfl d_D_state_185 ?_
      exact zl_i (u := u_5) hx hb hr hlocks hS hP hD (⟨by simp only [m_state, ← er_1, ← ex_2, ← er_5, ← eu_5, if_pos c_6, if_neg c_8, if_neg c_9, if_neg c_10, if_neg c_11, if_neg c_16, if_neg c_17, if_neg c_18, if_pos c_22], by simp only [m_state, ← er_1, ← ex_2, ← er_5, ← eu_5, if_pos c_6, if_neg c_8, if_neg c_9, if_neg c_10, if_neg c_11, if_neg c_16, if_neg c_17, if_neg c_18, if_pos c_22]⟩) d_D_state_188
    by_cases c_23 : p0 = (8 : Int32)
    · refine lv_tableIn (tgt := 189) hx hb d_D_state_33 (by rw [c_23]; decide) (by rw [c_23]; decide) (by rw [c_23]; rfl) (by decide) ?_
      refine lv_aload_n hx hb d_D_state_189 rfl (lv_at hl 0 rfl) ?_
      refine va_get (D := D) (ci := 6) (v := .int (u_5.1 10)) (C := "WindowMachineModel") (T := T_D) (N := 31) hx hb ht zi_D hown hK hP 0 rfl rfl 18 (by decide) (ht _ zw_872) (fun _ h9 => h9) rfl d_D_state_190 ?_
      exact zl_i (u := u_5) hx hb hr hlocks hS hP hD (⟨by simp only [m_state, ← er_1, ← ex_2, ← er_5, ← eu_5, if_pos c_6, if_neg c_8, if_neg c_9, if_neg c_10, if_neg c_11, if_neg c_16, if_neg c_17, if_neg c_18, if_neg c_22, if_pos c_23], by simp only [m_state, ← er_1, ← ex_2, ← er_5, ← eu_5, if_pos c_6, if_neg c_8, if_neg c_9, if_neg c_10, if_neg c_11, if_neg c_16, if_neg c_17, if_neg c_18, if_neg c_22, if_pos c_23]⟩) d_D_state_193
    by_cases c_24 : p0 = (9 : Int32)
    · refine lv_tableIn (tgt := 194) hx hb d_D_state_33 (by rw [c_24]; decide) (by rw [c_24]; decide) (by rw [c_24]; rfl) (by decide) ?_
      refine lv_aload_n hx hb d_D_state_194 rfl (lv_at hl 0 rfl) ?_
      refine va_get (D := D) (ci := 6) (v := .int (u_5.1 11)) (C := "WindowMachineModel") (T := T_D) (N := 31) hx hb ht zi_D hown hK hP 0 rfl rfl 19 (by decide) (ht _ zw_873) (fun _ h9 => h9) rfl d_D_state_195 ?_
      exact zl_i (u := u_5) hx hb hr hlocks hS hP hD (⟨by simp only [m_state, ← er_1, ← ex_2, ← er_5, ← eu_5, if_pos c_6, if_neg c_8, if_neg c_9, if_neg c_10, if_neg c_11, if_neg c_16, if_neg c_17, if_neg c_18, if_neg c_22, if_neg c_23, if_pos c_24], by simp only [m_state, ← er_1, ← ex_2, ← er_5, ← eu_5, if_pos c_6, if_neg c_8, if_neg c_9, if_neg c_10, if_neg c_11, if_neg c_16, if_neg c_17, if_neg c_18, if_neg c_22, if_neg c_23, if_pos c_24]⟩) d_D_state_198
    by_cases c_25 : p0 = (10 : Int32)
    · refine lv_tableIn (tgt := 199) hx hb d_D_state_33 (by rw [c_25]; decide) (by rw [c_25]; decide) (by rw [c_25]; rfl) (by decide) ?_
      refine lv_aload_n hx hb d_D_state_199 rfl (lv_at hl 0 rfl) ?_
      refine va_get (D := D) (ci := 6) (v := .int (u_5.1 12)) (C := "WindowMachineModel") (T := T_D) (N := 31) hx hb ht zi_D hown hK hP 0 rfl rfl 20 (by decide) (ht _ zw_874) (fun _ h9 => h9) rfl d_D_state_200 ?_
      exact zl_i (u := u_5) hx hb hr hlocks hS hP hD (⟨by simp only [m_state, ← er_1, ← ex_2, ← er_5, ← eu_5, if_pos c_6, if_neg c_8, if_neg c_9, if_neg c_10, if_neg c_11, if_neg c_16, if_neg c_17, if_neg c_18, if_neg c_22, if_neg c_23, if_neg c_24, if_pos c_25], by simp only [m_state, ← er_1, ← ex_2, ← er_5, ← eu_5, if_pos c_6, if_neg c_8, if_neg c_9, if_neg c_10, if_neg c_11, if_neg c_16, if_neg c_17, if_neg c_18, if_neg c_22, if_neg c_23, if_neg c_24, if_pos c_25]⟩) d_D_state_203
    refine lv_tableOut (tgt := 204) hx hb d_D_state_33 (by have := lv_neT c_8 (a := 0) (by decide); have := lv_neT c_9 (a := 1) (by decide); have := lv_neT c_10 (a := 2) (by decide); have := lv_neT c_11 (a := 3) (by decide); have := lv_neT c_16 (a := 4) (by decide); have := lv_neT c_17 (a := 5) (by decide); have := lv_neT c_18 (a := 6) (by decide); have := lv_neT c_22 (a := 7) (by decide); have := lv_neT c_23 (a := 8) (by decide); have := lv_neT c_24 (a := 9) (by decide); have := lv_neT c_25 (a := 10) (by decide); omega) (by decide) ?_
    refine lv_aload_n hx hb d_D_state_204 rfl (lv_at hl 0 rfl) ?_
    refine va_get (D := D) (ci := 6) (v := .int (u_5.1 20)) (C := "WindowMachineModel") (T := T_D) (N := 31) hx hb ht zi_D hown hK hP 0 rfl rfl 28 (by decide) (ht _ zw_882) (fun _ h9 => h9) rfl d_D_state_205 ?_
    refine zc_i (w2 := fun _ => wD h c u_5) (va_runS (As := [.int (u_5.1 20)]) (rest := []) ⟨hx, hb, hml, hown, ht⟩ (mt_D_bit l D H.size (u_5.1 20)) (cwS 1 ht (zgS zw_1043 zw_1044 zw_7 zw_1045) rfl rfl rfl kd_D_bit ⟨Nat.le_of_ble_eq_true rfl, Nat.le_of_ble_eq_true rfl⟩) ⟨zw_blind zw_tt, zw_go (hP.sub (ws' := []) [] rfl) (hD.sub (ws' := []) [] (by decide) rfl) (hK.sub (tys' := []) [] rfl) (fun _ _ _ => trivial)⟩ rfl rfl hl.1 rfl (lv_room (Nat.le_of_ble_eq_true rfl)) d_D_state_208 ⟨Nat.le_of_ble_eq_true rfl, Nat.le_of_ble_eq_true rfl⟩) hP hD hS hA [] [0, 1, 2, 3, 4, 5, 6, 7, 8] [0, 1, 2, 3, 4, 5, 6, 7, 8] rfl rfl (by decide) (by decide) (by decide) (fun _ => rfl) (fun r_26 _ H locs hw hP hD hS => ?_)
    have er_26 := hw
    exact zl_i (u := u_5) hx hb hr hlocks hS hP hD (⟨by simp only [m_state, ← er_1, ← ex_2, ← er_5, ← eu_5, ← er_26, if_pos c_6, if_neg c_8, if_neg c_9, if_neg c_10, if_neg c_11, if_neg c_16, if_neg c_17, if_neg c_18, if_neg c_22, if_neg c_23, if_neg c_24, if_neg c_25], by simp only [m_state, ← er_1, ← ex_2, ← er_5, ← eu_5, ← er_26, if_pos c_6, if_neg c_8, if_neg c_9, if_neg c_10, if_neg c_11, if_neg c_16, if_neg c_17, if_neg c_18, if_neg c_22, if_neg c_23, if_neg c_24, if_neg c_25]⟩) d_D_state_211
  refine lv_iconst (v := (0 : Int32)) hx hb d_D_state_30 (by decide) ?_
  exact zl_i (u := u_5) hx hb hr hlocks hS hP hD (⟨by simp only [m_state, ← er_1, ← ex_2, ← er_5, ← eu_5, if_neg c_6], by simp only [m_state, ← er_1, ← ex_2, ← er_5, ← eu_5, if_neg c_6]⟩) d_D_state_31
