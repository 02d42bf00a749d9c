theorem d_A_operationNamed_0 : decode c_A_operationNamed 0 = .ok (.aload_n 0, 1) := by decide +kernel
theorem d_A_operationNamed_1 : decode c_A_operationNamed 1 = .ok (.ldc 73, 2) := by decide +kernel
theorem d_A_operationNamed_3 : decode c_A_operationNamed 3 = .ok (.iconst 0, 1) := by decide +kernel
theorem d_A_operationNamed_4 : decode c_A_operationNamed 4 = .ok (.invokevirtual 75, 3) := by decide +kernel
theorem d_A_operationNamed_7 : decode c_A_operationNamed 7 = .ok (.istore_n 1, 1) := by decide +kernel
theorem d_A_operationNamed_8 : decode c_A_operationNamed 8 = .ok (.iload_n 1, 1) := by decide +kernel
theorem d_A_operationNamed_9 : decode c_A_operationNamed 9 = .ok (.ifCond .lt 7, 3) := by decide +kernel
theorem d_A_operationNamed_12 : decode c_A_operationNamed 12 = .ok (.iload_n 1, 1) := by decide +kernel
theorem d_A_operationNamed_13 : decode c_A_operationNamed 13 = .ok (.goto 11, 3) := by decide +kernel
theorem d_A_operationNamed_16 : decode c_A_operationNamed 16 = .ok (.aload_n 0, 1) := by decide +kernel
theorem d_A_operationNamed_17 : decode c_A_operationNamed 17 = .ok (.ldc 78, 2) := by decide +kernel
theorem d_A_operationNamed_19 : decode c_A_operationNamed 19 = .ok (.bipush 16, 2) := by decide +kernel
theorem d_A_operationNamed_21 : decode c_A_operationNamed 21 = .ok (.invokevirtual 75, 3) := by decide +kernel
theorem d_A_operationNamed_24 : decode c_A_operationNamed 24 = .ok (.istore_n 1, 1) := by decide +kernel
theorem d_A_operationNamed_25 : decode c_A_operationNamed 25 = .ok (.iload_n 1, 1) := by decide +kernel
theorem d_A_operationNamed_26 : decode c_A_operationNamed 26 = .ok (.ifCond .lt 7, 3) := by decide +kernel
theorem d_A_operationNamed_29 : decode c_A_operationNamed 29 = .ok (.iload_n 1, 1) := by decide +kernel
theorem d_A_operationNamed_30 : decode c_A_operationNamed 30 = .ok (.goto 11, 3) := by decide +kernel
theorem d_A_operationNamed_33 : decode c_A_operationNamed 33 = .ok (.aload_n 0, 1) := by decide +kernel
theorem d_A_operationNamed_34 : decode c_A_operationNamed 34 = .ok (.ldc 80, 2) := by decide +kernel
theorem d_A_operationNamed_36 : decode c_A_operationNamed 36 = .ok (.bipush 36, 2) := by decide +kernel
theorem d_A_operationNamed_38 : decode c_A_operationNamed 38 = .ok (.invokevirtual 75, 3) := by decide +kernel
theorem d_A_operationNamed_41 : decode c_A_operationNamed 41 = .ok (.istore_n 1, 1) := by decide +kernel
theorem d_A_operationNamed_42 : decode c_A_operationNamed 42 = .ok (.iload_n 1, 1) := by decide +kernel
theorem d_A_operationNamed_43 : decode c_A_operationNamed 43 = .ok (.ifCond .lt 7, 3) := by decide +kernel
theorem d_A_operationNamed_46 : decode c_A_operationNamed 46 = .ok (.iload_n 1, 1) := by decide +kernel
theorem d_A_operationNamed_47 : decode c_A_operationNamed 47 = .ok (.goto 11, 3) := by decide +kernel
theorem d_A_operationNamed_50 : decode c_A_operationNamed 50 = .ok (.aload_n 0, 1) := by decide +kernel
theorem d_A_operationNamed_51 : decode c_A_operationNamed 51 = .ok (.ldc 82, 2) := by decide +kernel
theorem d_A_operationNamed_53 : decode c_A_operationNamed 53 = .ok (.bipush 40, 2) := by decide +kernel
theorem d_A_operationNamed_55 : decode c_A_operationNamed 55 = .ok (.invokevirtual 75, 3) := by decide +kernel
theorem d_A_operationNamed_58 : decode c_A_operationNamed 58 = .ok (.istore_n 1, 1) := by decide +kernel
theorem d_A_operationNamed_59 : decode c_A_operationNamed 59 = .ok (.iload_n 1, 1) := by decide +kernel
theorem d_A_operationNamed_60 : decode c_A_operationNamed 60 = .ok (.ifCond .lt 7, 3) := by decide +kernel
theorem d_A_operationNamed_63 : decode c_A_operationNamed 63 = .ok (.iload_n 1, 1) := by decide +kernel
theorem d_A_operationNamed_64 : decode c_A_operationNamed 64 = .ok (.goto 11, 3) := by decide +kernel
theorem d_A_operationNamed_67 : decode c_A_operationNamed 67 = .ok (.aload_n 0, 1) := by decide +kernel
theorem d_A_operationNamed_68 : decode c_A_operationNamed 68 = .ok (.ldc 84, 2) := by decide +kernel
theorem d_A_operationNamed_70 : decode c_A_operationNamed 70 = .ok (.bipush 48, 2) := by decide +kernel
theorem d_A_operationNamed_72 : decode c_A_operationNamed 72 = .ok (.invokevirtual 75, 3) := by decide +kernel
theorem d_A_operationNamed_75 : decode c_A_operationNamed 75 = .ok (.istore_n 1, 1) := by decide +kernel
theorem d_A_operationNamed_76 : decode c_A_operationNamed 76 = .ok (.iload_n 1, 1) := by decide +kernel
theorem d_A_operationNamed_77 : decode c_A_operationNamed 77 = .ok (.ifCond .lt 7, 3) := by decide +kernel
theorem d_A_operationNamed_80 : decode c_A_operationNamed 80 = .ok (.iload_n 1, 1) := by decide +kernel
theorem d_A_operationNamed_81 : decode c_A_operationNamed 81 = .ok (.goto 11, 3) := by decide +kernel
theorem d_A_operationNamed_84 : decode c_A_operationNamed 84 = .ok (.aload_n 0, 1) := by decide +kernel
theorem d_A_operationNamed_85 : decode c_A_operationNamed 85 = .ok (.ldc 86, 2) := by decide +kernel
theorem d_A_operationNamed_87 : decode c_A_operationNamed 87 = .ok (.bipush 56, 2) := by decide +kernel
theorem d_A_operationNamed_89 : decode c_A_operationNamed 89 = .ok (.invokevirtual 75, 3) := by decide +kernel
theorem d_A_operationNamed_92 : decode c_A_operationNamed 92 = .ok (.ireturn, 1) := by decide +kernel
theorem kd_A_operationNamed : (y_A_operationNamed).cls = "WindowMachine$Assembler" ∧ (y_A_operationNamed).cls ≠ "java/lang/invoke/MethodHandle" ∧ (y_A_operationNamed).cls ≠ "java/lang/invoke/VarHandle" ∧ (parseMethodDescriptor (y_A_operationNamed).desc).map (fun d => d.parameters.length) = some 0 := by decide +kernel
def f_operationNamed (st : SA) : Int32 := (let r_1 := f_codeIn st 0 (0 : Int32); (let x_2 := (if r_1 < (0 : Int32) then f_codeIn st 1 (16 : Int32) else r_1); (let x_6 := (if x_2 < (0 : Int32) then f_codeIn st 2 (36 : Int32) else x_2); (let x_10 := (if x_6 < (0 : Int32) then f_codeIn st 3 (40 : Int32) else x_6); (let x_14 := (if x_10 < (0 : Int32) then f_codeIn st 4 (48 : Int32) else x_10); (let x_18 := (if x_14 < (0 : Int32) then f_codeIn st 5 (56 : Int32) else x_14); x_18))))))
set_option maxHeartbeats 4000000 in
set_option maxRecDepth 100000 in
theorem mt_A_operationNamed (l : Launch) (D : va_G) (za zk zv : Nat → Nat) (a b : Nat) (k : ClassId) (sz : Nat) (st : SA) (hA9 : okA st) : Met l y_A_operationNamed w_A_operationNamed ({ frames := 7, cells := 0, slots := 0, locals := 158 }) (va_Pc [.ref a] (zw_pre D vwCl [(k, .char)] sz (wA a b k st) (zz za zk zv (va_A (wA a b k st) sz)))) (va_Qi (fun r (_ : Unit) => r = f_operationNamed st) (fun u t => zw_at D vwCl (va_A (wA a b k st) sz) ((fun (_ : Unit) => wA a b k st) u) t) (va_A (wA a b k st) sz)) 0 0 (va_A (wA a b k st) sz) := by
  refine zm (Qf := fun A => va_Qi (fun r (_ : Unit) => r = f_operationNamed st) (fun u t => zw_at D vwCl A ((fun (_ : Unit) => wA a b k st) u) t) A) (Zf := fun A => zz za zk zv A) (cc := c_A_operationNamed) (nL := 2) (ret := (some .int)) (by decide) rfl (Nat.le_of_ble_eq_true rfl) ?_
  intro p e s m below meth c9 A H locs ls hx hb hml hown hts hr hlocks hA hK hP hD hS hZ hl
  have hl : lv_has ls 2 [(0, .ref a)] := hl
  have ht : ∀ w9 ∈ zT, w9.before _ s = true := fun w9 h9 => hts w9 (List.mem_cons_of_mem _ h9)
  refine lv_aload_n hx hb d_A_operationNamed_0 rfl (lv_at hl 0 rfl) ?_
  refine va_ldcS hx hb hown (zz_r0 hZ) d_A_operationNamed_1 ?_
  refine lv_iconst (v := (0 : Int32)) hx hb d_A_operationNamed_3 (by decide) ?_
  refine zc_i (w2 := fun _ => wA a b k st) (va_runV (As := [.ref (zk 0), .int (0 : Int32)]) (rest := []) ⟨hx, hb, hml, hown, ht⟩ (mt_A_codeIn l D za zk zv a b k H.size st 0 (by decide) (0 : Int32) hA9) (cwV 2 ht (zgV zw_315 zw_317 zs_4 zw_3 zw_318) rfl rfl rfl kd_A_codeIn ⟨Nat.le_of_ble_eq_true rfl, Nat.le_of_ble_eq_true rfl⟩) ⟨zw_blind zz_bl, va_recv (hK.sub (tys' := [(k, .char)]) [0] rfl) (hP.sub (ws' := wA a b k st) [0, 1] rfl) (ci := 0) (q0 := 0) rfl rfl, zw_go (hP.sub (ws' := wA a b k st) [0, 1] rfl) (hD.sub (ws' := wA a b k st) [0, 1] (by decide) rfl) (hK.sub (tys' := [(k, .char)]) [0] rfl) (fun U hU hW => zz_go hZ hS (va_free (wc := wA a b k st) hD hS hA [0, 1] rfl) hU hW)⟩ rfl rfl hl.1 rfl (lv_room (Nat.le_of_ble_eq_true rfl)) d_A_operationNamed_4 ⟨Nat.le_of_ble_eq_true rfl, Nat.le_of_ble_eq_true rfl⟩) hP hD hS hA [0, 1] [] [0, 1] rfl rfl (by decide) (by decide) (by decide) (fun _ => rfl) (fun r_1 _ H locs hw hP hD hS => ?_)
  have er_1 := hw
  refine lv_istore_n (lv' := [(1, .int r_1), (0, .ref a)]) hx hb d_A_operationNamed_7 rfl hl (by decide) rfl (fun ls hl => ?_)
  refine lv_iload_n hx hb d_A_operationNamed_8 rfl (lv_at hl 0 rfl) ?_
  refine zcut (X := Int32) (G := fun v9 H locs ls => v9 = (if r_1 < (0 : Int32) then f_codeIn st 1 (16 : Int32) else r_1) ∧ va_P D vwCl (wA a b k st) H ∧ va_D A (wA a b k st) ∧ va_S A s.heap H locs ∧ lv_has ls 2 [(0, .ref a), (1, .int r_1)]) (fr := fun v9 ls => F0 m 24 ls [.int v9]) (fun J_3 => ?_) (fun v9 H locs ls hG => ?_)
  · refine lv_if_lt (tgt := 16) hx hb d_A_operationNamed_9 (by decide) (fun c_4 => ?_) (fun c_4 => ?_)
    · refine lv_aload_n hx hb d_A_operationNamed_16 rfl (lv_at hl 1 rfl) ?_
      refine va_ldcS hx hb hown (zz_r1 hZ) d_A_operationNamed_17 ?_
      refine lv_bipush (v := (16 : Int32)) hx hb d_A_operationNamed_19 (by decide) ?_
      refine zc_i (w2 := fun _ => wA a b k st) (va_runV (As := [.ref (zk 1), .int (16 : Int32)]) (rest := []) ⟨hx, hb, hml, hown, ht⟩ (mt_A_codeIn l D za zk zv a b k H.size st 1 (by decide) (16 : Int32) hA9) (cwV 2 ht (zgV zw_315 zw_317 zs_4 zw_3 zw_318) rfl rfl rfl kd_A_codeIn ⟨Nat.le_of_ble_eq_true rfl, Nat.le_of_ble_eq_true rfl⟩) ⟨zw_blind zz_bl, va_recv (hK.sub (tys' := [(k, .char)]) [0] rfl) (hP.sub (ws' := wA a b k st) [0, 1] rfl) (ci := 0) (q0 := 0) rfl rfl, zw_go (hP.sub (ws' := wA a b k st) [0, 1] rfl) (hD.sub (ws' := wA a b k st) [0, 1] (by decide) rfl) (hK.sub (tys' := [(k, .char)]) [0] rfl) (fun U hU hW => zz_go hZ hS (va_free (wc := wA a b k st) hD hS hA [0, 1] rfl) hU hW)⟩ rfl rfl hl.1 rfl (lv_room (Nat.le_of_ble_eq_true rfl)) d_A_operationNamed_21 ⟨Nat.le_of_ble_eq_true rfl, Nat.le_of_ble_eq_true rfl⟩) hP hD hS hA [0, 1] [] [0, 1] rfl rfl (by decide) (by decide) (by decide) (fun _ => rfl) (fun r_5 _ H locs hw hP hD hS => ?_)
      subst hw
      exact J_3 (f_codeIn st 1 (16 : Int32)) _ _ _ ⟨by simp only [if_pos c_4], hP, hD, hS, (lv_sub hl [1, 0] rfl)⟩
    refine lv_iload_n hx hb d_A_operationNamed_12 rfl (lv_at hl 0 rfl) ?_
    refine lv_goto (tgt := 24) hx hb d_A_operationNamed_13 (by decide) ?_
    exact J_3 r_1 _ _ _ ⟨by simp only [if_neg c_4], hP, hD, hS, (lv_sub hl [1, 0] rfl)⟩
  obtain ⟨x_2, rfl⟩ : ∃ z, z = v9 := ⟨_, rfl⟩
  obtain ⟨ex_2, hP, hD, hS, hl⟩ := hG
  refine lv_istore_n (lv' := [(1, .int x_2), (0, .ref a)]) hx hb d_A_operationNamed_24 rfl hl (by decide) rfl (fun ls hl => ?_)
  refine lv_iload_n hx hb d_A_operationNamed_25 rfl (lv_at hl 0 rfl) ?_
  refine zcut (X := Int32) (G := fun v9 H locs ls => v9 = (if x_2 < (0 : Int32) then f_codeIn st 2 (36 : Int32) else x_2) ∧ va_P D vwCl (wA a b k st) H ∧ va_D A (wA a b k st) ∧ va_S A s.heap H locs ∧ lv_has ls 2 [(0, .ref a), (1, .int x_2)]) (fr := fun v9 ls => F0 m 41 ls [.int v9]) (fun J_7 => ?_) (fun v9 H locs ls hG => ?_)
  · refine lv_if_lt (tgt := 33) hx hb d_A_operationNamed_26 (by decide) (fun c_8 => ?_) (fun c_8 => ?_)
    · refine lv_aload_n hx hb d_A_operationNamed_33 rfl (lv_at hl 1 rfl) ?_
      refine va_ldcS hx hb hown (zz_r2 hZ) d_A_operationNamed_34 ?_
      refine lv_bipush (v := (36 : Int32)) hx hb d_A_operationNamed_36 (by decide) ?_
      refine zc_i (w2 := fun _ => wA a b k st) (va_runV (As := [.ref (zk 2), .int (36 : Int32)]) (rest := []) ⟨hx, hb, hml, hown, ht⟩ (mt_A_codeIn l D za zk zv a b k H.size st 2 (by decide) (36 : Int32) hA9) (cwV 2 ht (zgV zw_315 zw_317 zs_4 zw_3 zw_318) rfl rfl rfl kd_A_codeIn ⟨Nat.le_of_ble_eq_true rfl, Nat.le_of_ble_eq_true rfl⟩) ⟨zw_blind zz_bl, va_recv (hK.sub (tys' := [(k, .char)]) [0] rfl) (hP.sub (ws' := wA a b k st) [0, 1] rfl) (ci := 0) (q0 := 0) rfl rfl, zw_go (hP.sub (ws' := wA a b k st) [0, 1] rfl) (hD.sub (ws' := wA a b k st) [0, 1] (by decide) rfl) (hK.sub (tys' := [(k, .char)]) [0] rfl) (fun U hU hW => zz_go hZ hS (va_free (wc := wA a b k st) hD hS hA [0, 1] rfl) hU hW)⟩ rfl rfl hl.1 rfl (lv_room (Nat.le_of_ble_eq_true rfl)) d_A_operationNamed_38 ⟨Nat.le_of_ble_eq_true rfl, Nat.le_of_ble_eq_true rfl⟩) hP hD hS hA [0, 1] [] [0, 1] rfl rfl (by decide) (by decide) (by decide) (fun _ => rfl) (fun r_9 _ H locs hw hP hD hS => ?_)
      subst hw
      exact J_7 (f_codeIn st 2 (36 : Int32)) _ _ _ ⟨by simp only [if_pos c_8], hP, hD, hS, (lv_sub hl [1, 0] rfl)⟩
    refine lv_iload_n hx hb d_A_operationNamed_29 rfl (lv_at hl 0 rfl) ?_
    refine lv_goto (tgt := 41) hx hb d_A_operationNamed_30 (by decide) ?_
    exact J_7 x_2 _ _ _ ⟨by simp only [if_neg c_8], hP, hD, hS, (lv_sub hl [1, 0] rfl)⟩
  obtain ⟨x_6, rfl⟩ : ∃ z, z = v9 := ⟨_, rfl⟩
  obtain ⟨ex_6, hP, hD, hS, hl⟩ := hG
  refine lv_istore_n (lv' := [(1, .int x_6), (0, .ref a)]) hx hb d_A_operationNamed_41 rfl hl (by decide) rfl (fun ls hl => ?_)
  refine lv_iload_n hx hb d_A_operationNamed_42 rfl (lv_at hl 0 rfl) ?_
  refine zcut (X := Int32) (G := fun v9 H locs ls => v9 = (if x_6 < (0 : Int32) then f_codeIn st 3 (40 : Int32) else x_6) ∧ va_P D vwCl (wA a b k st) H ∧ va_D A (wA a b k st) ∧ va_S A s.heap H locs ∧ lv_has ls 2 [(0, .ref a), (1, .int x_6)]) (fr := fun v9 ls => F0 m 58 ls [.int v9]) (fun J_11 => ?_) (fun v9 H locs ls hG => ?_)
  · refine lv_if_lt (tgt := 50) hx hb d_A_operationNamed_43 (by decide) (fun c_12 => ?_) (fun c_12 => ?_)
    · refine lv_aload_n hx hb d_A_operationNamed_50 rfl (lv_at hl 1 rfl) ?_
      refine va_ldcS hx hb hown (zz_r3 hZ) d_A_operationNamed_51 ?_
      refine lv_bipush (v := (40 : Int32)) hx hb d_A_operationNamed_53 (by decide) ?_
      refine zc_i (w2 := fun _ => wA a b k st) (va_runV (As := [.ref (zk 3), .int (40 : Int32)]) (rest := []) ⟨hx, hb, hml, hown, ht⟩ (mt_A_codeIn l D za zk zv a b k H.size st 3 (by decide) (40 : Int32) hA9) (cwV 2 ht (zgV zw_315 zw_317 zs_4 zw_3 zw_318) rfl rfl rfl kd_A_codeIn ⟨Nat.le_of_ble_eq_true rfl, Nat.le_of_ble_eq_true rfl⟩) ⟨zw_blind zz_bl, va_recv (hK.sub (tys' := [(k, .char)]) [0] rfl) (hP.sub (ws' := wA a b k st) [0, 1] rfl) (ci := 0) (q0 := 0) rfl rfl, zw_go (hP.sub (ws' := wA a b k st) [0, 1] rfl) (hD.sub (ws' := wA a b k st) [0, 1] (by decide) rfl) (hK.sub (tys' := [(k, .char)]) [0] rfl) (fun U hU hW => zz_go hZ hS (va_free (wc := wA a b k st) hD hS hA [0, 1] rfl) hU hW)⟩ rfl rfl hl.1 rfl (lv_room (Nat.le_of_ble_eq_true rfl)) d_A_operationNamed_55 ⟨Nat.le_of_ble_eq_true rfl, Nat.le_of_ble_eq_true rfl⟩) hP hD hS hA [0, 1] [] [0, 1] rfl rfl (by decide) (by decide) (by decide) (fun _ => rfl) (fun r_13 _ H locs hw hP hD hS => ?_)
      subst hw
      exact J_11 (f_codeIn st 3 (40 : Int32)) _ _ _ ⟨by simp only [if_pos c_12], hP, hD, hS, (lv_sub hl [1, 0] rfl)⟩
    refine lv_iload_n hx hb d_A_operationNamed_46 rfl (lv_at hl 0 rfl) ?_
    refine lv_goto (tgt := 58) hx hb d_A_operationNamed_47 (by decide) ?_
    exact J_11 x_6 _ _ _ ⟨by simp only [if_neg c_12], hP, hD, hS, (lv_sub hl [1, 0] rfl)⟩
  obtain ⟨x_10, rfl⟩ : ∃ z, z = v9 := ⟨_, rfl⟩
  obtain ⟨ex_10, hP, hD, hS, hl⟩ := hG
  refine lv_istore_n (lv' := [(1, .int x_10), (0, .ref a)]) hx hb d_A_operationNamed_58 rfl hl (by decide) rfl (fun ls hl => ?_)
  refine lv_iload_n hx hb d_A_operationNamed_59 rfl (lv_at hl 0 rfl) ?_
  refine zcut (X := Int32) (G := fun v9 H locs ls => v9 = (if x_10 < (0 : Int32) then f_codeIn st 4 (48 : Int32) else x_10) ∧ va_P D vwCl (wA a b k st) H ∧ va_D A (wA a b k st) ∧ va_S A s.heap H locs ∧ lv_has ls 2 [(0, .ref a), (1, .int x_10)]) (fr := fun v9 ls => F0 m 75 ls [.int v9]) (fun J_15 => ?_) (fun v9 H locs ls hG => ?_)
  · refine lv_if_lt (tgt := 67) hx hb d_A_operationNamed_60 (by decide) (fun c_16 => ?_) (fun c_16 => ?_)
    · refine lv_aload_n hx hb d_A_operationNamed_67 rfl (lv_at hl 1 rfl) ?_
      refine va_ldcS hx hb hown (zz_r4 hZ) d_A_operationNamed_68 ?_
      refine lv_bipush (v := (48 : Int32)) hx hb d_A_operationNamed_70 (by decide) ?_
      refine zc_i (w2 := fun _ => wA a b k st) (va_runV (As := [.ref (zk 4), .int (48 : Int32)]) (rest := []) ⟨hx, hb, hml, hown, ht⟩ (mt_A_codeIn l D za zk zv a b k H.size st 4 (by decide) (48 : Int32) hA9) (cwV 2 ht (zgV zw_315 zw_317 zs_4 zw_3 zw_318) rfl rfl rfl kd_A_codeIn ⟨Nat.le_of_ble_eq_true rfl, Nat.le_of_ble_eq_true rfl⟩) ⟨zw_blind zz_bl, va_recv (hK.sub (tys' := [(k, .char)]) [0] rfl) (hP.sub (ws' := wA a b k st) [0, 1] rfl) (ci := 0) (q0 := 0) rfl rfl, zw_go (hP.sub (ws' := wA a b k st) [0, 1] rfl) (hD.sub (ws' := wA a b k st) [0, 1] (by decide) rfl) (hK.sub (tys' := [(k, .char)]) [0] rfl) (fun U hU hW => zz_go hZ hS (va_free (wc := wA a b k st) hD hS hA [0, 1] rfl) hU hW)⟩ rfl rfl hl.1 rfl (lv_room (Nat.le_of_ble_eq_true rfl)) d_A_operationNamed_72 ⟨Nat.le_of_ble_eq_true rfl, Nat.le_of_ble_eq_true rfl⟩) hP hD hS hA [0, 1] [] [0, 1] rfl rfl (by decide) (by decide) (by decide) (fun _ => rfl) (fun r_17 _ H locs hw hP hD hS => ?_)
      subst hw
      exact J_15 (f_codeIn st 4 (48 : Int32)) _ _ _ ⟨by simp only [if_pos c_16], hP, hD, hS, (lv_sub hl [1, 0] rfl)⟩
    refine lv_iload_n hx hb d_A_operationNamed_63 rfl (lv_at hl 0 rfl) ?_
    refine lv_goto (tgt := 75) hx hb d_A_operationNamed_64 (by decide) ?_
    exact J_15 x_10 _ _ _ ⟨by simp only [if_neg c_16], hP, hD, hS, (lv_sub hl [1, 0] rfl)⟩
  obtain ⟨x_14, rfl⟩ : ∃ z, z = v9 := ⟨_, rfl⟩
  obtain ⟨ex_14, hP, hD, hS, hl⟩ := hG
  refine lv_istore_n (lv' := [(1, .int x_14), (0, .ref a)]) hx hb d_A_operationNamed_75 rfl hl (by decide) rfl (fun ls hl => ?_)
  refine lv_iload_n hx hb d_A_operationNamed_76 rfl (lv_at hl 0 rfl) ?_
  refine zcut (X := Int32) (G := fun v9 H locs ls => v9 = (if x_14 < (0 : Int32) then f_codeIn st 5 (56 : Int32) else x_14) ∧ va_P D vwCl (wA a b k st) H ∧ va_D A (wA a b k st) ∧ va_S A s.heap H locs ∧ lv_has ls 2 [(0, .ref a), (1, .int x_14)]) (fr := fun v9 ls => F0 m 92 ls [.int v9]) (fun J_19 => ?_) (fun v9 H locs ls hG => ?_)
  · refine lv_if_lt (tgt := 84) hx hb d_A_operationNamed_77 (by decide) (fun c_20 => ?_) (fun c_20 => ?_)
    · refine lv_aload_n hx hb d_A_operationNamed_84 rfl (lv_at hl 1 rfl) ?_
      refine va_ldcS hx hb hown (zz_r5 hZ) d_A_operationNamed_85 ?_
      refine lv_bipush (v := (56 : Int32)) hx hb d_A_operationNamed_87 (by decide) ?_
      refine zc_i (w2 := fun _ => wA a b k st) (va_runV (As := [.ref (zk 5), .int (56 : Int32)]) (rest := []) ⟨hx, hb, hml, hown, ht⟩ (mt_A_codeIn l D za zk zv a b k H.size st 5 (by decide) (56 : Int32) hA9) (cwV 2 ht (zgV zw_315 zw_317 zs_4 zw_3 zw_318) rfl rfl rfl kd_A_codeIn ⟨Nat.le_of_ble_eq_true rfl, Nat.le_of_ble_eq_true rfl⟩) ⟨zw_blind zz_bl, va_recv (hK.sub (tys' := [(k, .char)]) [0] rfl) (hP.sub (ws' := wA a b k st) [0, 1] rfl) (ci := 0) (q0 := 0) rfl rfl, zw_go (hP.sub (ws' := wA a b k st) [0, 1] rfl) (hD.sub (ws' := wA a b k st) [0, 1] (by decide) rfl) (hK.sub (tys' := [(k, .char)]) [0] rfl) (fun U hU hW => zz_go hZ hS (va_free (wc := wA a b k st) hD hS hA [0, 1] rfl) hU hW)⟩ rfl rfl hl.1 rfl (lv_room (Nat.le_of_ble_eq_true rfl)) d_A_operationNamed_89 ⟨Nat.le_of_ble_eq_true rfl, Nat.le_of_ble_eq_true rfl⟩) hP hD hS hA [0, 1] [] [0, 1] rfl rfl (by decide) (by decide) (by decide) (fun _ => rfl) (fun r_21 _ H locs hw hP hD hS => ?_)
      subst hw
      exact J_19 (f_codeIn st 5 (56 : Int32)) _ _ _ ⟨by simp only [if_pos c_20], hP, hD, hS, (lv_sub hl [1, 0] rfl)⟩
    refine lv_iload_n hx hb d_A_operationNamed_80 rfl (lv_at hl 0 rfl) ?_
    refine lv_goto (tgt := 92) hx hb d_A_operationNamed_81 (by decide) ?_
    exact J_19 x_14 _ _ _ ⟨by simp only [if_neg c_20], hP, hD, hS, (lv_sub hl [1, 0] rfl)⟩
  obtain ⟨x_18, rfl⟩ : ∃ z, z = v9 := ⟨_, rfl⟩
  obtain ⟨ex_18, hP, hD, hS, hl⟩ := hG
  exact zl_i (u := ()) hx hb hr hlocks hS hP hD (by simp only [f_operationNamed, ← er_1, ← ex_2, ← ex_6, ← ex_10, ← ex_14, ← ex_18]) d_A_operationNamed_92
theorem d_A_bitsOfOthers_0 : decode c_A_bitsOfOthers 0 = .ok (.aload_n 0, 1) := by decide +kernel
theorem d_A_bitsOfOthers_1 : decode c_A_bitsOfOthers 1 = .ok (.ldc 69, 2) := by decide +kernel
theorem d_A_bitsOfOthers_3 : decode c_A_bitsOfOthers 3 = .ok (.iconst 0, 1) := by decide +kernel
theorem d_A_bitsOfOthers_4 : decode c_A_bitsOfOthers 4 = .ok (.invokevirtual 53, 3) := by decide +kernel
theorem d_A_bitsOfOthers_7 : decode c_A_bitsOfOthers 7 = .ok (.tableswitch 50 0 2 #[25, 33, 41], 25) := by decide +kernel
theorem d_A_bitsOfOthers_32 : decode c_A_bitsOfOthers 32 = .ok (.aload_n 0, 1) := by decide +kernel
theorem d_A_bitsOfOthers_33 : decode c_A_bitsOfOthers 33 = .ok (.iconst 0, 1) := by decide +kernel
theorem d_A_bitsOfOthers_34 : decode c_A_bitsOfOthers 34 = .ok (.putfield 47, 3) := by decide +kernel
theorem d_A_bitsOfOthers_37 : decode c_A_bitsOfOthers 37 = .ok (.ldc 71, 2) := by decide +kernel
theorem d_A_bitsOfOthers_39 : decode c_A_bitsOfOthers 39 = .ok (.ireturn, 1) := by decide +kernel
theorem d_A_bitsOfOthers_40 : decode c_A_bitsOfOthers 40 = .ok (.aload_n 0, 1) := by decide +kernel
theorem d_A_bitsOfOthers_41 : decode c_A_bitsOfOthers 41 = .ok (.iconst 5, 1) := by decide +kernel
theorem d_A_bitsOfOthers_42 : decode c_A_bitsOfOthers 42 = .ok (.putfield 47, 3) := by decide +kernel
theorem d_A_bitsOfOthers_45 : decode c_A_bitsOfOthers 45 = .ok (.ldc 71, 2) := by decide +kernel
theorem d_A_bitsOfOthers_47 : decode c_A_bitsOfOthers 47 = .ok (.ireturn, 1) := by decide +kernel
theorem d_A_bitsOfOthers_48 : decode c_A_bitsOfOthers 48 = .ok (.aload_n 0, 1) := by decide +kernel
theorem d_A_bitsOfOthers_49 : decode c_A_bitsOfOthers 49 = .ok (.bipush 6, 2) := by decide +kernel
theorem d_A_bitsOfOthers_51 : decode c_A_bitsOfOthers 51 = .ok (.putfield 47, 3) := by decide +kernel
theorem d_A_bitsOfOthers_54 : decode c_A_bitsOfOthers 54 = .ok (.ldc 72, 2) := by decide +kernel
theorem d_A_bitsOfOthers_56 : decode c_A_bitsOfOthers 56 = .ok (.ireturn, 1) := by decide +kernel
theorem d_A_bitsOfOthers_57 : decode c_A_bitsOfOthers 57 = .ok (.iconst 0, 1) := by decide +kernel
theorem d_A_bitsOfOthers_58 : decode c_A_bitsOfOthers 58 = .ok (.ireturn, 1) := by decide +kernel
theorem kd_A_bitsOfOthers : (y_A_bitsOfOthers).cls = "WindowMachine$Assembler" ∧ (y_A_bitsOfOthers).cls ≠ "java/lang/invoke/MethodHandle" ∧ (y_A_bitsOfOthers).cls ≠ "java/lang/invoke/VarHandle" ∧ (parseMethodDescriptor (y_A_bitsOfOthers).desc).map (fun d => d.parameters.length) = some 0 := by decide +kernel
def f_bitsOfOthers (st : SA) : Int32 × SA := (let r_1 := f_indexIn st 8 (0 : Int32); (if r_1 = (0 : Int32) then ((16777216 : Int32), (upd st.1 3 (0 : Int32), st.2)) else (if r_1 = (1 : Int32) then ((16777216 : Int32), (upd st.1 3 (5 : Int32), st.2)) else (if r_1 = (2 : Int32) then ((1073741824 : Int32), (upd st.1 3 (6 : Int32), st.2)) else ((0 : Int32), st)))))
set_option maxHeartbeats 4000000 in
set_option maxRecDepth 100000 in
theorem mt_A_bitsOfOthers (l : Launch) (D : va_G) (za zk zv : Nat → Nat) (a b : Nat) (k : ClassId) (sz : Nat) (st : SA) (hA9 : okA st) : Met l y_A_bitsOfOthers w_A_bitsOfOthers ({ frames := 6, cells := 0, slots := 0, locals := 135 }) (va_Pc [.ref a] (zw_pre D vwCl [(k, .char)] sz (wA a b k st) (zz za zk zv (va_A (wA a b k st) sz)))) (va_Qi (fun r (u : SA) => r = (f_bitsOfOthers st).1 ∧ u = (f_bitsOfOthers st).2) (fun u t => zw_at D vwCl (va_A (wA a b k st) sz) ((fun (u : SA) => wA a b k u) u) t) (va_A (wA a b k st) sz)) 0 0 (va_A (wA a b k st) sz) := by
  refine zm (Qf := fun A => va_Qi (fun r (u : SA) => r = (f_bitsOfOthers st).1 ∧ u = (f_bitsOfOthers st).2) (fun u t => zw_at D vwCl A ((fun (u : SA) => wA a b k u) u) t) A) (Zf := fun A => zz za zk zv A) (cc := c_A_bitsOfOthers) (nL := 1) (ret := (some .int)) (by decide) rfl (Nat.le_of_ble_eq_true rfl) ?_
  intro p e s m below meth c9 A H locs ls hx hb hml hown hts hr hlocks hA hK hP hD hS hZ hl
  have hl : lv_has ls 1 [(0, .ref a)] := hl
  have ht : ∀ w9 ∈ zT, w9.before _ s = true := fun w9 h9 => hts w9 (List.mem_cons_of_mem _ h9)
  refine lv_aload_n hx hb d_A_bitsOfOthers_0 rfl (lv_at hl 0 rfl) ?_
  refine va_ldcS hx hb hown (zz_r8 hZ) d_A_bitsOfOthers_1 ?_
  refine lv_iconst (v := (0 : Int32)) hx hb d_A_bitsOfOthers_3 (by decide) ?_
  refine zc_i (w2 := fun _ => wA a b k st) (va_runV (As := [.ref (zk 8), .int (0 : Int32)]) (rest := []) ⟨hx, hb, hml, hown, ht⟩ (mt_A_indexIn l D za zk zv a b k H.size st 8 (by decide) (0 : Int32) hA9 (by decide)) (cwV 2 ht (zgV zw_319 zw_321 zs_5 zw_3 zw_322) rfl rfl rfl kd_A_indexIn ⟨Nat.le_of_ble_eq_true rfl, Nat.le_of_ble_eq_true rfl⟩) ⟨zw_blind zz_bl, va_recv (hK.sub (tys' := [(k, .char)]) [0] rfl) (hP.sub (ws' := wA a b k st) [0, 1] rfl) (ci := 0) (q0 := 0) rfl rfl, zw_go (hP.sub (ws' := wA a b k st) [0, 1] rfl) (hD.sub (ws' := wA a b k st) [0, 1] (by decide) rfl) (hK.sub (tys' := [(k, .char)]) [0] rfl) (fun U hU hW => zz_go hZ hS (va_free (wc := wA a b k st) hD hS hA [0, 1] rfl) hU hW)⟩ rfl rfl hl.1 rfl (lv_room (Nat.le_of_ble_eq_true rfl)) d_A_bitsOfOthers_4 ⟨Nat.le_of_ble_eq_true rfl, Nat.le_of_ble_eq_true rfl⟩) hP hD hS hA [0, 1] [] [0, 1] rfl rfl (by decide) (by decide) (by decide) (fun _ => rfl) (fun r_1 _ H locs hw hP hD hS => ?_)
  have er_1 := hw
  by_cases c_3 : r_1 = (0 : Int32)
  · refine lv_tableIn (tgt := 32) hx hb d_A_bitsOfOthers_7 (by rw [c_3]; decide) (by rw [c_3]; decide) (by rw [c_3]; rfl) (by decide) ?_
    refine lv_aload_n hx hb d_A_bitsOfOthers_32 rfl (lv_at hl 0 rfl) ?_
    refine lv_iconst (v := (0 : Int32)) hx hb d_A_bitsOfOthers_33 (by decide) ?_
    refine va_put (D := D) (ci := 0) (v := .int (0 : Int32)) (ty := .int) (C := "WindowMachine$Assembler") (T := T_A) (N := 5) hx hb ht zi_A ty_A tyok_A nm_A hown hK hP hD hS 0 rfl rfl 4 (by decide) (ht _ zw_50) (fun _ h9 => h9) rfl (by decide +kernel) rfl rfl (Nat.le_of_ble_eq_true rfl) d_A_bitsOfOthers_34 (fun H locs hP hD hS => ?_)
    have hP : va_P D vwCl (wA a b k (upd st.1 3 (0 : Int32), st.2)) H := hP
    have hD : va_D A (wA a b k (upd st.1 3 (0 : Int32), st.2)) := hD
    refine lv_ldc (v := (16777216 : Int32)) hx hb hown (ht _ zw_398) d_A_bitsOfOthers_37 ?_
    exact zl_i (u := (upd st.1 3 (0 : Int32), st.2)) hx hb hr hlocks hS hP hD (⟨by simp only [f_bitsOfOthers, ← er_1, if_pos c_3], by simp only [f_bitsOfOthers, ← er_1, if_pos c_3]⟩) d_A_bitsOfOthers_39
  by_cases c_4 : r_1 = (1 : Int32)
  · refine lv_tableIn (tgt := 40) hx hb d_A_bitsOfOthers_7 (by rw [c_4]; decide) (by rw [c_4]; decide) (by rw [c_4]; rfl) (by decide) ?_
    refine lv_aload_n hx hb d_A_bitsOfOthers_40 rfl (lv_at hl 0 rfl) ?_
    refine lv_iconst (v := (5 : Int32)) hx hb d_A_bitsOfOthers_41 (by decide) ?_
    refine va_put (D := D) (ci := 0) (v := .int (5 : Int32)) (ty := .int) (C := "WindowMachine$Assembler") (T := T_A) (N := 5) hx hb ht zi_A ty_A tyok_A nm_A hown hK hP hD hS 0 rfl rfl 4 (by decide) (ht _ zw_50) (fun _ h9 => h9) rfl (by decide +kernel) rfl rfl (Nat.le_of_ble_eq_true rfl) d_A_bitsOfOthers_42 (fun H locs hP hD hS => ?_)
    have hP : va_P D vwCl (wA a b k (upd st.1 3 (5 : Int32), st.2)) H := hP
    have hD : va_D A (wA a b k (upd st.1 3 (5 : Int32), st.2)) := hD
    refine lv_ldc (v := (16777216 : Int32)) hx hb hown (ht _ zw_398) d_A_bitsOfOthers_45 ?_
    exact zl_i (u := (upd st.1 3 (5 : Int32), st.2)) hx hb hr hlocks hS hP hD (⟨by simp only [f_bitsOfOthers, ← er_1, if_neg c_3, if_pos c_4], by simp only [f_bitsOfOthers, ← er_1, if_neg c_3, if_pos c_4]⟩) d_A_bitsOfOthers_47
  by_cases c_5 : r_1 = (2 : Int32)
  · refine lv_tableIn (tgt := 48) hx hb d_A_bitsOfOthers_7 (by rw [c_5]; decide) (by rw [c_5]; decide) (by rw [c_5]; rfl) (by decide) ?_
    refine lv_aload_n hx hb d_A_bitsOfOthers_48 rfl (lv_at hl 0 rfl) ?_
    refine lv_bipush (v := (6 : Int32)) hx hb d_A_bitsOfOthers_49 (by decide) ?_
    refine va_put (D := D) (ci := 0) (v := .int (6 : Int32)) (ty := .int) (C := "WindowMachine$Assembler") (T := T_A) (N := 5) hx hb ht zi_A ty_A tyok_A nm_A hown hK hP hD hS 0 rfl rfl 4 (by decide) (ht _ zw_50) (fun _ h9 => h9) rfl (by decide +kernel) rfl rfl (Nat.le_of_ble_eq_true rfl) d_A_bitsOfOthers_51 (fun H locs hP hD hS => ?_)
    have hP : va_P D vwCl (wA a b k (upd st.1 3 (6 : Int32), st.2)) H := hP
    have hD : va_D A (wA a b k (upd st.1 3 (6 : Int32), st.2)) := hD
    refine lv_ldc (v := (1073741824 : Int32)) hx hb hown (ht _ zw_399) d_A_bitsOfOthers_54 ?_
    exact zl_i (u := (upd st.1 3 (6 : Int32), st.2)) hx hb hr hlocks hS hP hD (⟨by simp only [f_bitsOfOthers, ← er_1, if_neg c_3, if_neg c_4, if_pos c_5], by simp only [f_bitsOfOthers, ← er_1, if_neg c_3, if_neg c_4, if_pos c_5]⟩) d_A_bitsOfOthers_56
  refine lv_tableOut (tgt := 57) hx hb d_A_bitsOfOthers_7 (by have := lv_neT c_3 (a := 0) (by decide); have := lv_neT c_4 (a := 1) (by decide); have := lv_neT c_5 (a := 2) (by decide); omega) (by decide) ?_
  refine lv_iconst (v := (0 : Int32)) hx hb d_A_bitsOfOthers_57 (by decide) ?_
  exact zl_i (u := st) hx hb hr hlocks hS hP hD (⟨by simp only [f_bitsOfOthers, ← er_1, if_neg c_3, if_neg c_4, if_neg c_5], by simp only [f_bitsOfOthers, ← er_1, if_neg c_3, if_neg c_4, if_neg c_5]⟩) d_A_bitsOfOthers_58
theorem ok_bitsOfOthers {st : SA} (h : okA st) : okA (f_bitsOfOthers st).2 := by
  have h1 : ∀ v : Int32, okA (upd st.1 3 v, st.2) := fun v => h
  unfold f_bitsOfOthers
  dsimp only
  repeat' first | with_reducible exact h | with_reducible exact h1 _ | with_reducible refine okA_ite2 ?_ ?_
