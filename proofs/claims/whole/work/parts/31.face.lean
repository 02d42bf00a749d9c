def wX (h : Nat → Nat) (c : Nat → ClassId) (st : SX) : va_W := (h 6, .inr (5, [.ref (h 1), .ref (h 7), .ref (h 0)])) :: (wP h c st.1 ++ wA (h 7) (h 8) (c 2) st.2)
def exI (_ : Int32) : String := "java/lang/IndexOutOfBoundsException"
def exG (_ : Int32) : String := "java/lang/IllegalArgumentException"
def exA (k : Int32) : String := if k = 1 then "java/lang/IllegalArgumentException" else "java/lang/IndexOutOfBoundsException"
def exR (k : Int32) : String := if k = 1 then "java/lang/IllegalArgumentException" else "java/lang/IllegalStateException"
theorem d_X_place_0 : decode c_X_place 0 = .ok (.aload_n 0, 1) := by decide +kernel
theorem d_X_place_1 : decode c_X_place 1 = .ok (.getfield 19, 3) := by decide +kernel
theorem d_X_place_4 : decode c_X_place 4 = .ok (.getfield 64, 3) := by decide +kernel
theorem d_X_place_7 : decode c_X_place 7 = .ok (.ireturn, 1) := by decide +kernel
theorem kd_X_place : (y_X_place).cls = "WindowMachine" ∧ (y_X_place).cls ≠ "java/lang/invoke/MethodHandle" ∧ (y_X_place).cls ≠ "java/lang/invoke/VarHandle" ∧ (parseMethodDescriptor (y_X_place).desc).map (fun d => d.parameters.length) = some 0 := by decide +kernel
def f_placeX (st : SX) : Int32 := st.2.1 2
set_option maxHeartbeats 4000000 in
set_option maxRecDepth 100000 in
theorem mt_X_place (l : Launch) (D : va_G) (za zk zv : Nat → Nat) (h : Nat → Nat) (c : Nat → ClassId) (sz : Nat) (st : SX) : Met l y_X_place w_X_place ({ frames := 0, cells := 0, slots := 0, locals := 0 }) (va_Pc [.ref (h 6)] (zw_pre D vwCl [(c 0, .int), (c 1, .int), (c 2, .char)] sz (wX h c st) (zz za zk zv (va_A (wX h c st) sz)))) (va_Qi (fun r (_ : Unit) => r = f_placeX st) (fun u t => zw_at D vwCl (va_A (wX h c st) sz) ((fun (_ : Unit) => wX h c st) u) t) (va_A (wX h c st) sz)) 0 0 (va_A (wX h c st) sz) := by
  refine zm (Qf := fun A => va_Qi (fun r (_ : Unit) => r = f_placeX st) (fun u t => zw_at D vwCl A ((fun (_ : Unit) => wX h c st) u) t) A) (Zf := fun A => zz za zk zv A) (cc := c_X_place) (nL := 1) (ret := (some .int)) (by decide) rfl (Nat.le_of_ble_eq_true rfl) ?_
  intro p e s m below meth c9 A H locs ls hx hb hml hown hts hr hlocks hA hK hP hD hS hZ hl
  have hl : lv_has ls 1 [(0, .ref (h 6))] := hl
  have ht : ∀ w9 ∈ zT, w9.before _ s = true := fun w9 h9 => hts w9 (List.mem_cons_of_mem _ h9)
  refine lv_aload_n hx hb d_X_place_0 rfl (lv_at hl 0 rfl) ?_
  refine va_get (D := D) (ci := 5) (v := .ref (h 7)) (C := "WindowMachine") (T := T_X) (N := 3) hx hb ht zi_X hown hK hP 0 rfl rfl 1 (by decide) (ht _ zw_175) (fun _ h9 => h9) rfl d_X_place_1 ?_
  refine va_getN (D := D) (ci := 0) (v := .int (st.2.1 2)) (C := "WindowMachine$Assembler") (T := T_A) (N := 5) hx hb ht zi_A hown hK hP 7 rfl rfl 3 (by decide) (va_Nw.use rfl (zz_n49 hZ)) (fun _ h9 => h9) rfl d_X_place_4 ?_
  exact zl_i (u := ()) hx hb hr hlocks hS hP hD (by simp only [f_placeX]) d_X_place_7
theorem d_X_isWordAt_0 : decode c_X_isWordAt 0 = .ok (.iload_n 1, 1) := by decide +kernel
theorem d_X_isWordAt_1 : decode c_X_isWordAt 1 = .ok (.iconst 3, 1) := by decide +kernel
theorem d_X_isWordAt_2 : decode c_X_isWordAt 2 = .ok (.iand, 1) := by decide +kernel
theorem d_X_isWordAt_3 : decode c_X_isWordAt 3 = .ok (.ifCond .ne 19, 3) := by decide +kernel
theorem d_X_isWordAt_6 : decode c_X_isWordAt 6 = .ok (.aload_n 0, 1) := by decide +kernel
theorem d_X_isWordAt_7 : decode c_X_isWordAt 7 = .ok (.getfield 10, 3) := by decide +kernel
theorem d_X_isWordAt_10 : decode c_X_isWordAt 10 = .ok (.iload_n 1, 1) := by decide +kernel
theorem d_X_isWordAt_11 : decode c_X_isWordAt 11 = .ok (.iconst 4, 1) := by decide +kernel
theorem d_X_isWordAt_12 : decode c_X_isWordAt 12 = .ok (.invokevirtual 137, 3) := by decide +kernel
theorem d_X_isWordAt_15 : decode c_X_isWordAt 15 = .ok (.ifCond .eq 7, 3) := by decide +kernel
theorem d_X_isWordAt_18 : decode c_X_isWordAt 18 = .ok (.iconst 1, 1) := by decide +kernel
theorem d_X_isWordAt_19 : decode c_X_isWordAt 19 = .ok (.goto 4, 3) := by decide +kernel
theorem d_X_isWordAt_22 : decode c_X_isWordAt 22 = .ok (.iconst 0, 1) := by decide +kernel
theorem d_X_isWordAt_23 : decode c_X_isWordAt 23 = .ok (.ireturn, 1) := by decide +kernel
theorem kd_X_isWordAt : (y_X_isWordAt).cls = "WindowMachine" ∧ (y_X_isWordAt).cls ≠ "java/lang/invoke/MethodHandle" ∧ (y_X_isWordAt).cls ≠ "java/lang/invoke/VarHandle" ∧ (parseMethodDescriptor (y_X_isWordAt).desc).map (fun d => d.parameters.length) = some 1 := by decide +kernel
def f_isWordAt (p0 : Int32) : Int32 := (let x_1 := (if (p0 &&& (3 : Int32)) = (0 : Int32) then (if (f_holds p0 (4 : Int32)) = (0 : Int32) then (0 : Int32) else (1 : Int32)) else (0 : Int32)); x_1)
set_option maxHeartbeats 4000000 in
set_option maxRecDepth 100000 in
theorem mt_X_isWordAt (l : Launch) (D : va_G) (h : Nat → Nat) (c : Nat → ClassId) (sz : Nat) (st : SX) (p0 : Int32) : Met l y_X_isWordAt w_X_isWordAt ({ frames := 1, cells := 0, slots := 0, locals := 22 }) (va_Pc [.ref (h 6), .int p0] (zw_pre D vwCl [(c 0, .int), (c 1, .int), (c 2, .char)] sz (wX h c st) (fun _ => True))) (va_Qi (fun r (_ : Unit) => r = f_isWordAt p0) (fun u t => zw_at D vwCl (va_A (wX h c st) sz) ((fun (_ : Unit) => wX h c st) u) t) (va_A (wX h c st) sz)) 0 0 (va_A (wX h c st) sz) := by
  refine zm (Qf := fun A => va_Qi (fun r (_ : Unit) => r = f_isWordAt p0) (fun u t => zw_at D vwCl A ((fun (_ : Unit) => wX h c st) u) t) A) (Zf := fun _ _ => True) (cc := c_X_isWordAt) (nL := 2) (ret := (some .boolean)) (by decide) rfl (Nat.le_of_ble_eq_true rfl) ?_
  intro p e s m below meth c9 A H locs ls hx hb hml hown hts hr hlocks hA hK hP hD hS hZ hl
  have hl : lv_has ls 2 [(0, .ref (h 6)), (1, .int p0)] := hl
  have ht : ∀ w9 ∈ zT, w9.before _ s = true := fun w9 h9 => hts w9 (List.mem_cons_of_mem _ h9)
  refine lv_iload_n hx hb d_X_isWordAt_0 rfl (lv_at hl 1 rfl) ?_
  refine lv_iconst (v := (3 : Int32)) hx hb d_X_isWordAt_1 (by decide) ?_
  refine lv_iand hx hb d_X_isWordAt_2 ?_
  refine zcut (X := Int32) (G := fun v9 H locs ls => v9 = (if (p0 &&& (3 : Int32)) = (0 : Int32) then (if (f_holds p0 (4 : Int32)) = (0 : Int32) then (0 : Int32) else (1 : Int32)) else (0 : Int32)) ∧ va_P D vwCl (wX h c st) H ∧ va_D A (wX h c st) ∧ va_S A s.heap H locs ∧ lv_has ls 2 [(0, .ref (h 6)), (1, .int p0)]) (fr := fun v9 ls => F0 m 23 ls [.int v9]) (fun J_2 => ?_) (fun v9 H locs ls hG => ?_)
  · refine lv_if_ne (tgt := 22) hx hb d_X_isWordAt_3 (by decide) (fun c_3 => ?_) (fun c_3 => ?_)
    · refine lv_iconst (v := (0 : Int32)) hx hb d_X_isWordAt_22 (by decide) ?_
      exact J_2 (0 : Int32) _ _ _ ⟨by simp only [if_neg c_3], hP, hD, hS, hl⟩
    refine lv_aload_n hx hb d_X_isWordAt_6 rfl (lv_at hl 0 rfl) ?_
    refine va_get (D := D) (ci := 5) (v := .ref (h 1)) (C := "WindowMachine") (T := T_X) (N := 3) hx hb ht zi_X hown hK hP 0 rfl rfl 0 (by decide) (ht _ zw_174) (fun _ h9 => h9) rfl d_X_isWordAt_7 ?_
    refine lv_iload_n hx hb d_X_isWordAt_10 rfl (lv_at hl 1 rfl) ?_
    refine lv_iconst (v := (4 : Int32)) hx hb d_X_isWordAt_11 (by decide) ?_
    refine zc_i (w2 := fun _ => wX h c st) (va_runV (As := [.int p0, .int (4 : Int32)]) (rest := []) ⟨hx, hb, hml, hown, ht⟩ (mt_M_holds l D (h 1) (h 2) (c 0) H.size st.1.2.2.2 p0 (4 : Int32)) (cwV 2 ht (zgV zw_459 zw_460 zw_461 zw_2 zw_462) rfl rfl rfl kd_M_holds ⟨Nat.le_of_ble_eq_true rfl, Nat.le_of_ble_eq_true rfl⟩) ⟨zw_blind zw_tt, va_recv (hK.sub (tys' := [((c 0), .int)]) [0] rfl) (hP.sub (ws' := wM (h 1) (h 2) (c 0) st.1.2.2.2) [2, 3] rfl) (ci := 1) (q0 := 0) rfl rfl, zw_go (hP.sub (ws' := wM (h 1) (h 2) (c 0) st.1.2.2.2) [2, 3] rfl) (hD.sub (ws' := wM (h 1) (h 2) (c 0) st.1.2.2.2) [2, 3] (by decide) rfl) (hK.sub (tys' := [((c 0), .int)]) [0] rfl) (fun _ _ _ => trivial)⟩ rfl rfl hl.1 rfl (lv_room (Nat.le_of_ble_eq_true rfl)) d_X_isWordAt_12 ⟨Nat.le_of_ble_eq_true rfl, Nat.le_of_ble_eq_true rfl⟩) hP hD hS hA [2, 3] [0, 1, 4, 5, 6, 7, 8] [0, 1, 7, 8, 2, 3, 4, 5, 6] rfl rfl (by decide) (by decide) (by decide) (fun _ => rfl) (fun r_4 _ H locs hw hP hD hS => ?_)
    subst hw
    refine lv_if_eq (tgt := 22) hx hb d_X_isWordAt_15 (by decide) (fun c_5 => ?_) (fun c_5 => ?_)
    · refine lv_iconst (v := (0 : Int32)) hx hb d_X_isWordAt_22 (by decide) ?_
      exact J_2 (0 : Int32) _ _ _ ⟨by simp only [if_pos c_3, if_pos c_5], hP, hD, hS, hl⟩
    refine lv_iconst (v := (1 : Int32)) hx hb d_X_isWordAt_18 (by decide) ?_
    refine lv_goto (tgt := 23) hx hb d_X_isWordAt_19 (by decide) ?_
    exact J_2 (1 : Int32) _ _ _ ⟨by simp only [if_pos c_3, if_neg c_5], hP, hD, hS, hl⟩
  obtain ⟨x_1, rfl⟩ : ∃ z, z = v9 := ⟨_, rfl⟩
  obtain ⟨ex_1, hP, hD, hS, hl⟩ := hG
  have zbx_1 : zB x_1 := by rw [ex_1]; repeat' first | exact zB0 | exact zB1 | assumption | apply zB_ite
  exact zl_z (u := ()) hx hb hr (zbx_1).n hlocks hS hP hD (by simp only [f_isWordAt, ← ex_1]) d_X_isWordAt_23
theorem d_X_checkWordAt_0 : decode c_X_checkWordAt 0 = .ok (.aload_n 0, 1) := by decide +kernel
theorem d_X_checkWordAt_1 : decode c_X_checkWordAt 1 = .ok (.iload_n 1, 1) := by decide +kernel
theorem d_X_checkWordAt_2 : decode c_X_checkWordAt 2 = .ok (.invokevirtual 95, 3) := by decide +kernel
theorem d_X_checkWordAt_5 : decode c_X_checkWordAt 5 = .ok (.ifCond .ne 13, 3) := by decide +kernel
theorem d_X_checkWordAt_8 : decode c_X_checkWordAt 8 = .ok (.new 47, 3) := by decide +kernel
theorem d_X_checkWordAt_11 : decode c_X_checkWordAt 11 = .ok (.dup, 1) := by decide +kernel
theorem d_X_checkWordAt_12 : decode c_X_checkWordAt 12 = .ok (.ldc 98, 2) := by decide +kernel
theorem d_X_checkWordAt_14 : decode c_X_checkWordAt 14 = .ok (.invokespecial 51, 3) := by decide +kernel
theorem d_X_checkWordAt_17 : decode c_X_checkWordAt 17 = .ok (.athrow, 1) := by decide +kernel
theorem d_X_checkWordAt_18 : decode c_X_checkWordAt 18 = .ok (.return_, 1) := by decide +kernel
theorem kd_X_checkWordAt : (y_X_checkWordAt).cls = "WindowMachine" ∧ (y_X_checkWordAt).cls ≠ "java/lang/invoke/MethodHandle" ∧ (y_X_checkWordAt).cls ≠ "java/lang/invoke/VarHandle" ∧ (parseMethodDescriptor (y_X_checkWordAt).desc).map (fun d => d.parameters.length) = some 1 := by decide +kernel
def f_checkWordAt (p0 : Int32) : Int32 := (let r_1 := f_isWordAt p0; (if r_1 = (0 : Int32) then (1 : Int32) else (0 : Int32)))
set_option maxHeartbeats 4000000 in
set_option maxRecDepth 100000 in
theorem mt_X_checkWordAt (l : Launch) (hlt : l.stackTraces = false) (D : va_G) (za zk zv : Nat → Nat) (h : Nat → Nat) (c : Nat → ClassId) (sz : Nat) (st : SX) (p0 : Int32) : vx_Met l y_X_checkWordAt w_X_checkWordAt ({ frames := 6, cells := 1, slots := 6, locals := 86 }) (va_Pc [.ref (h 6), .int p0] (zw_pre D vwCl [(c 0, .int), (c 1, .int), (c 2, .char)] sz (wX h c st) (zy za zk zv (va_A (wX h c st) sz)))) (va_Qv (fun (_ : Unit) => f_checkWordAt p0 = (0 : Int32)) (fun u t => zw_at D vwCl (va_A (wX h c st) sz) ((fun (_ : Unit) => wX h c st) u) t) (va_A (wX h c st) sz)) (zx D vwCl (fun (_ : Unit) => ¬ f_checkWordAt p0 = (0 : Int32)) (fun E (_ : Unit) => E = "java/lang/IndexOutOfBoundsException") (fun (_ : Unit) => wX h c st) (va_A (wX h c st) sz)) 1 6 (va_A (wX h c st) sz) := by
  refine zmx (Qf := fun A => va_Qv (fun (_ : Unit) => f_checkWordAt p0 = (0 : Int32)) (fun u t => zw_at D vwCl A ((fun (_ : Unit) => wX h c st) u) t) A) (Xf := fun A => zx D vwCl (fun (_ : Unit) => ¬ f_checkWordAt p0 = (0 : Int32)) (fun E (_ : Unit) => E = "java/lang/IndexOutOfBoundsException") (fun (_ : Unit) => wX h c st) A) (Zf := fun A => zy za zk zv A) (cc := c_X_checkWordAt) (nL := 2) (ret := none) (by decide) rfl (Nat.le_of_ble_eq_true rfl) ?_
  intro p e s m below meth c9 A H locs ls hx hb hml hown hts hr hlocks hA hK hP hD hS hZ hl hex
  have hY := hZ
  have hZ := hZ.1
  have hl : lv_has ls 2 [(0, .ref (h 6)), (1, .int p0)] := hl
  have ht : ∀ w9 ∈ zT, w9.before _ s = true := fun w9 h9 => hts w9 (List.mem_cons_of_mem _ h9)
  refine lv_aload_n hx hb d_X_checkWordAt_0 rfl (lv_at hl 0 rfl) ?_
  refine lv_iload_n hx hb d_X_checkWordAt_1 rfl (lv_at hl 1 rfl) ?_
  refine zc_i (w2 := fun _ => wX h c st) (va_runV (As := [.int p0]) (rest := []) ⟨hx, hb, hml, hown, ht⟩ (mt_X_isWordAt l D h c H.size st p0) (cwV 1 ht (zgV zw_455 zw_457 zs_21 zw_1 zw_458) rfl rfl rfl kd_X_isWordAt ⟨Nat.le_of_ble_eq_true rfl, Nat.le_of_ble_eq_true rfl⟩) ⟨zw_blind zw_tt, va_recv (hK.sub (tys' := [(c 0, .int), (c 1, .int), (c 2, .char)]) [0, 1, 2] rfl) (hP.sub (ws' := wX h c st) [0, 1, 2, 3, 4, 5, 6, 7, 8] rfl) (ci := 5) (q0 := 0) rfl rfl, zw_go (hP.sub (ws' := wX h c st) [0, 1, 2, 3, 4, 5, 6, 7, 8] rfl) (hD.sub (ws' := wX h c st) [0, 1, 2, 3, 4, 5, 6, 7, 8] (by decide) rfl) (hK.sub (tys' := [(c 0, .int), (c 1, .int), (c 2, .char)]) [0, 1, 2] rfl) (fun _ _ _ => trivial)⟩ rfl rfl hl.1 rfl (lv_room (Nat.le_of_ble_eq_true rfl)) d_X_checkWordAt_2 ⟨Nat.le_of_ble_eq_true rfl, Nat.le_of_ble_eq_true rfl⟩) hP hD hS hA [0, 1, 2, 3, 4, 5, 6, 7, 8] [] [0, 1, 2, 3, 4, 5, 6, 7, 8] rfl rfl (by decide) (by decide) (by decide) (fun _ => rfl) (fun r_1 _ H locs hw hP hD hS => ?_)
  have er_1 := hw
  refine lv_if_ne (tgt := 18) hx hb d_X_checkWordAt_5 (by decide) (fun c_2 => ?_) (fun c_2 => ?_)
  · refine W.widen (k := 1) (n := 6) (Nat.le_of_ble_eq_true rfl) (Nat.le_of_ble_eq_true rfl) ?_
    exact vx_ret (zl_v (u := ()) hx hb hr hlocks hS hP hD (by simp only [f_checkWordAt, ← er_1, if_neg c_2]) d_X_checkWordAt_18)
  exact vx_throwS hx hb hlt (own := "WindowMachine") (cls := "java/lang/IndexOutOfBoundsException") (text := "there is no word at this address") (names := ["java/lang/RuntimeException", "java/lang/Exception"]) (sa := zk 12) (A := A) hown (by decide) (by decide) (ht _ zw_275) (ht _ zw_12) (zz_r12 hZ) (hat_51 ht hY) ho_51 (zz_us hZ) (zz_ss hZ) hS (hl.1.trans hml.symm) d_X_checkWordAt_8 d_X_checkWordAt_11 d_X_checkWordAt_12 d_X_checkWordAt_14 d_X_checkWordAt_17 (fun x9 h9 => (hex x9 h9).elim) (Nat.le_of_ble_eq_true rfl) (Nat.le_of_ble_eq_true rfl) (Nat.le_of_ble_eq_true rfl) (Nat.le_of_ble_eq_true rfl) hlocks (zx_fin (u := ()) hP hD hS (by simp only [f_checkWordAt, ← er_1, if_pos c_2]; decide) rfl) hS.2.2 (Nat.le_of_ble_eq_true rfl) (Nat.le_of_ble_eq_true rfl)
theorem d_X_checkRegister_0 : decode c_X_checkRegister 0 = .ok (.iload_n 1, 1) := by decide +kernel
theorem d_X_checkRegister_1 : decode c_X_checkRegister 1 = .ok (.ifCond .lt 18, 3) := by decide +kernel
theorem d_X_checkRegister_4 : decode c_X_checkRegister 4 = .ok (.iload_n 1, 1) := by decide +kernel
theorem d_X_checkRegister_5 : decode c_X_checkRegister 5 = .ok (.bipush 32, 2) := by decide +kernel
theorem d_X_checkRegister_7 : decode c_X_checkRegister 7 = .ok (.if_icmp .ge 12, 3) := by decide +kernel
theorem d_X_checkRegister_10 : decode c_X_checkRegister 10 = .ok (.iload_n 0, 1) := by decide +kernel
theorem d_X_checkRegister_11 : decode c_X_checkRegister 11 = .ok (.ifCond .lt 8, 3) := by decide +kernel
theorem d_X_checkRegister_14 : decode c_X_checkRegister 14 = .ok (.iload_n 0, 1) := by decide +kernel
theorem d_X_checkRegister_15 : decode c_X_checkRegister 15 = .ok (.iconst 4, 1) := by decide +kernel
theorem d_X_checkRegister_16 : decode c_X_checkRegister 16 = .ok (.if_icmp .lt 13, 3) := by decide +kernel
theorem d_X_checkRegister_19 : decode c_X_checkRegister 19 = .ok (.new 36, 3) := by decide +kernel
theorem d_X_checkRegister_22 : decode c_X_checkRegister 22 = .ok (.dup, 1) := by decide +kernel
theorem d_X_checkRegister_23 : decode c_X_checkRegister 23 = .ok (.ldc 141, 2) := by decide +kernel
theorem d_X_checkRegister_25 : decode c_X_checkRegister 25 = .ok (.invokespecial 40, 3) := by decide +kernel
theorem d_X_checkRegister_28 : decode c_X_checkRegister 28 = .ok (.athrow, 1) := by decide +kernel
theorem d_X_checkRegister_29 : decode c_X_checkRegister 29 = .ok (.return_, 1) := by decide +kernel
theorem kd_X_checkRegister : (y_X_checkRegister).cls = "WindowMachine" ∧ (y_X_checkRegister).cls ≠ "java/lang/invoke/MethodHandle" ∧ (y_X_checkRegister).cls ≠ "java/lang/invoke/VarHandle" ∧ (parseMethodDescriptor (y_X_checkRegister).desc).map (fun d => d.parameters.length) = some 2 := by decide +kernel
def f_checkRegister (p0 : Int32) (p1 : Int32) : Int32 := (if p1 < (0 : Int32) then (1 : Int32) else (if (32 : Int32) ≤ p1 then (1 : Int32) else (if p0 < (0 : Int32) then (1 : Int32) else (if p0 < (4 : Int32) then (0 : Int32) else (1 : Int32)))))
set_option maxHeartbeats 4000000 in
set_option maxRecDepth 100000 in
theorem mt_X_checkRegister (l : Launch) (hlt : l.stackTraces = false) (D : va_G) (za zk zv : Nat → Nat) (sz : Nat) (p0 : Int32) (p1 : Int32) : vx_Met l y_X_checkRegister w_X_checkRegister ({ frames := 6, cells := 1, slots := 6, locals := 86 }) (va_Pc [.int p0, .int p1] (zw_pre D vwCl [] sz ([]) (zy za zk zv (va_A ([]) sz)))) (va_Qv (fun (_ : Unit) => f_checkRegister p0 p1 = (0 : Int32)) (fun u t => zw_at D vwCl (va_A ([]) sz) ((fun (_ : Unit) => []) u) t) (va_A ([]) sz)) (zx D vwCl (fun (_ : Unit) => ¬ f_checkRegister p0 p1 = (0 : Int32)) (fun E (_ : Unit) => E = "java/lang/IllegalArgumentException") (fun (_ : Unit) => []) (va_A ([]) sz)) 1 6 (va_A ([]) sz) := by
  refine zmx (Qf := fun A => va_Qv (fun (_ : Unit) => f_checkRegister p0 p1 = (0 : Int32)) (fun u t => zw_at D vwCl A ((fun (_ : Unit) => []) u) t) A) (Xf := fun A => zx D vwCl (fun (_ : Unit) => ¬ f_checkRegister p0 p1 = (0 : Int32)) (fun E (_ : Unit) => E = "java/lang/IllegalArgumentException") (fun (_ : Unit) => []) A) (Zf := fun A => zy za zk zv A) (cc := c_X_checkRegister) (nL := 2) (ret := none) (by decide) rfl (Nat.le_of_ble_eq_true rfl) ?_
  intro p e s m below meth c9 A H locs ls hx hb hml hown hts hr hlocks hA hK hP hD hS hZ hl hex
  have hY := hZ
  have hZ := hZ.1
  have hl : lv_has ls 2 [(0, .int p0), (1, .int p1)] := hl
  have ht : ∀ w9 ∈ zT, w9.before _ s = true := fun w9 h9 => hts w9 (List.mem_cons_of_mem _ h9)
  refine lv_iload_n hx hb d_X_checkRegister_0 rfl (lv_at hl 1 rfl) ?_
  refine lv_if_lt (tgt := 19) hx hb d_X_checkRegister_1 (by decide) (fun c_1 => ?_) (fun c_1 => ?_)
  · exact vx_throwS hx hb hlt (own := "WindowMachine") (cls := "java/lang/IllegalArgumentException") (text := "there is no such register") (names := ["java/lang/RuntimeException", "java/lang/Exception"]) (sa := zk 15) (A := A) hown (by decide) (by decide) (ht _ zw_203) (ht _ zw_11) (zz_r15 hZ) (hat_40 ht hY) ho_40 (zz_us hZ) (zz_ss hZ) hS (hl.1.trans hml.symm) d_X_checkRegister_19 d_X_checkRegister_22 d_X_checkRegister_23 d_X_checkRegister_25 d_X_checkRegister_28 (fun x9 h9 => (hex x9 h9).elim) (Nat.le_of_ble_eq_true rfl) (Nat.le_of_ble_eq_true rfl) (Nat.le_of_ble_eq_true rfl) (Nat.le_of_ble_eq_true rfl) hlocks (zx_fin (u := ()) hP hD hS (by simp only [f_checkRegister, if_pos c_1]; decide) rfl) hS.2.2 (Nat.le_of_ble_eq_true rfl) (Nat.le_of_ble_eq_true rfl)
  refine lv_iload_n hx hb d_X_checkRegister_4 rfl (lv_at hl 1 rfl) ?_
  refine lv_bipush (v := (32 : Int32)) hx hb d_X_checkRegister_5 (by decide) ?_
  refine lv_icmp_ge (tgt := 19) hx hb d_X_checkRegister_7 (by decide) (fun c_2 => ?_) (fun c_2 => ?_)
  · exact vx_throwS hx hb hlt (own := "WindowMachine") (cls := "java/lang/IllegalArgumentException") (text := "there is no such register") (names := ["java/lang/RuntimeException", "java/lang/Exception"]) (sa := zk 15) (A := A) hown (by decide) (by decide) (ht _ zw_203) (ht _ zw_11) (zz_r15 hZ) (hat_40 ht hY) ho_40 (zz_us hZ) (zz_ss hZ) hS (hl.1.trans hml.symm) d_X_checkRegister_19 d_X_checkRegister_22 d_X_checkRegister_23 d_X_checkRegister_25 d_X_checkRegister_28 (fun x9 h9 => (hex x9 h9).elim) (Nat.le_of_ble_eq_true rfl) (Nat.le_of_ble_eq_true rfl) (Nat.le_of_ble_eq_true rfl) (Nat.le_of_ble_eq_true rfl) hlocks (zx_fin (u := ()) hP hD hS (by simp only [f_checkRegister, if_neg c_1, if_pos c_2]; decide) rfl) hS.2.2 (Nat.le_of_ble_eq_true rfl) (Nat.le_of_ble_eq_true rfl)
  refine lv_iload_n hx hb d_X_checkRegister_10 rfl (lv_at hl 0 rfl) ?_
  refine lv_if_lt (tgt := 19) hx hb d_X_checkRegister_11 (by decide) (fun c_3 => ?_) (fun c_3 => ?_)
  · exact vx_throwS hx hb hlt (own := "WindowMachine") (cls := "java/lang/IllegalArgumentException") (text := "there is no such register") (names := ["java/lang/RuntimeException", "java/lang/Exception"]) (sa := zk 15) (A := A) hown (by decide) (by decide) (ht _ zw_203) (ht _ zw_11) (zz_r15 hZ) (hat_40 ht hY) ho_40 (zz_us hZ) (zz_ss hZ) hS (hl.1.trans hml.symm) d_X_checkRegister_19 d_X_checkRegister_22 d_X_checkRegister_23 d_X_checkRegister_25 d_X_checkRegister_28 (fun x9 h9 => (hex x9 h9).elim) (Nat.le_of_ble_eq_true rfl) (Nat.le_of_ble_eq_true rfl) (Nat.le_of_ble_eq_true rfl) (Nat.le_of_ble_eq_true rfl) hlocks (zx_fin (u := ()) hP hD hS (by simp only [f_checkRegister, if_neg c_1, if_neg c_2, if_pos c_3]; decide) rfl) hS.2.2 (Nat.le_of_ble_eq_true rfl) (Nat.le_of_ble_eq_true rfl)
  refine lv_iload_n hx hb d_X_checkRegister_14 rfl (lv_at hl 0 rfl) ?_
  refine lv_iconst (v := (4 : Int32)) hx hb d_X_checkRegister_15 (by decide) ?_
  refine lv_icmp_lt (tgt := 29) hx hb d_X_checkRegister_16 (by decide) (fun c_4 => ?_) (fun c_4 => ?_)
  · refine W.widen (k := 1) (n := 6) (Nat.le_of_ble_eq_true rfl) (Nat.le_of_ble_eq_true rfl) ?_
    exact vx_ret (zl_v (u := ()) hx hb hr hlocks hS hP hD (by simp only [f_checkRegister, if_neg c_1, if_neg c_2, if_neg c_3, if_pos c_4]) d_X_checkRegister_29)
  exact vx_throwS hx hb hlt (own := "WindowMachine") (cls := "java/lang/IllegalArgumentException") (text := "there is no such register") (names := ["java/lang/RuntimeException", "java/lang/Exception"]) (sa := zk 15) (A := A) hown (by decide) (by decide) (ht _ zw_203) (ht _ zw_11) (zz_r15 hZ) (hat_40 ht hY) ho_40 (zz_us hZ) (zz_ss hZ) hS (hl.1.trans hml.symm) d_X_checkRegister_19 d_X_checkRegister_22 d_X_checkRegister_23 d_X_checkRegister_25 d_X_checkRegister_28 (fun x9 h9 => (hex x9 h9).elim) (Nat.le_of_ble_eq_true rfl) (Nat.le_of_ble_eq_true rfl) (Nat.le_of_ble_eq_true rfl) (Nat.le_of_ble_eq_true rfl) hlocks (zx_fin (u := ()) hP hD hS (by simp only [f_checkRegister, if_neg c_1, if_neg c_2, if_neg c_3, if_neg c_4]; decide) rfl) hS.2.2 (Nat.le_of_ble_eq_true rfl) (Nat.le_of_ble_eq_true rfl)
theorem cw_in {a : Int32} (h : f_checkWordAt a = (0 : Int32)) : vp_in (a / (4 : Int32)) 256 := by
  refine ld_in (fun q => ?_)
  unfold f_checkWordAt at h
  dsimp only at h
  unfold f_isWordAt at h
  dsimp only at h
  by_cases c : (a &&& (3 : Int32)) = (0 : Int32)
  · simp [c, q] at h
  · simp [c] at h
theorem d_X_put_0 : decode c_X_put 0 = .ok (.aload_n 0, 1) := by decide +kernel
theorem d_X_put_1 : decode c_X_put 1 = .ok (.iload_n 1, 1) := by decide +kernel
theorem d_X_put_2 : decode c_X_put 2 = .ok (.invokevirtual 69, 3) := by decide +kernel
theorem d_X_put_5 : decode c_X_put 5 = .ok (.aload_n 0, 1) := by decide +kernel
theorem d_X_put_6 : decode c_X_put 6 = .ok (.getfield 10, 3) := by decide +kernel
theorem d_X_put_9 : decode c_X_put 9 = .ok (.iload_n 1, 1) := by decide +kernel
theorem d_X_put_10 : decode c_X_put 10 = .ok (.iconst 4, 1) := by decide +kernel
theorem d_X_put_11 : decode c_X_put 11 = .ok (.invokevirtual 77, 3) := by decide +kernel
theorem d_X_put_14 : decode c_X_put 14 = .ok (.istore_n 3, 1) := by decide +kernel
theorem d_X_put_15 : decode c_X_put 15 = .ok (.aload_n 0, 1) := by decide +kernel
theorem d_X_put_16 : decode c_X_put 16 = .ok (.getfield 10, 3) := by decide +kernel
theorem d_X_put_19 : decode c_X_put 19 = .ok (.iload_n 1, 1) := by decide +kernel
theorem d_X_put_20 : decode c_X_put 20 = .ok (.iconst 4, 1) := by decide +kernel
theorem d_X_put_21 : decode c_X_put 21 = .ok (.iload_n 2, 1) := by decide +kernel
theorem d_X_put_22 : decode c_X_put 22 = .ok (.invokevirtual 73, 3) := by decide +kernel
theorem d_X_put_25 : decode c_X_put 25 = .ok (.iload_n 3, 1) := by decide +kernel
theorem d_X_put_26 : decode c_X_put 26 = .ok (.ireturn, 1) := by decide +kernel
theorem kd_X_put : (y_X_put).cls = "WindowMachine" ∧ (y_X_put).cls ≠ "java/lang/invoke/MethodHandle" ∧ (y_X_put).cls ≠ "java/lang/invoke/VarHandle" ∧ (parseMethodDescriptor (y_X_put).desc).map (fun d => d.parameters.length) = some 2 := by decide +kernel
def f_putX (st : SX) (p0 : Int32) (p1 : Int32) : Int32 × Int32 × SX := (if f_checkWordAt p0 = (0 : Int32) then (let r_2 := f_load st.1.2.2.2 p0 (4 : Int32); (let u_3 := f_store st.1.2.2.2 p0 (4 : Int32) p1; ((0 : Int32), r_2, ((st.1.1, st.1.2.1, st.1.2.2.1, u_3), st.2)))) else ((1 : Int32), (0 : Int32), st))
set_option maxHeartbeats 4000000 in
set_option maxRecDepth 100000 in
theorem mt_X_put (l : Launch) (hlt : l.stackTraces = false) (D : va_G) (za zk zv : Nat → Nat) (h : Nat → Nat) (c : Nat → ClassId) (sz : Nat) (st : SX) (p0 : Int32) (p1 : Int32) : vx_Met l y_X_put w_X_put ({ frames := 7, cells := 1, slots := 6, locals := 107 }) (va_Pc [.ref (h 6), .int p0, .int p1] (zw_pre D vwCl [(c 0, .int), (c 1, .int), (c 2, .char)] sz (wX h c st) (zy za zk zv (va_A (wX h c st) sz)))) (va_Qi (fun r (u : SX) => (f_putX st p0 p1).1 = (0 : Int32) ∧ r = (f_putX st p0 p1).2.1 ∧ u = (f_putX st p0 p1).2.2) (fun u t => zw_at D vwCl (va_A (wX h c st) sz) ((fun (u : SX) => wX h c u) u) t) (va_A (wX h c st) sz)) (zx D vwCl (fun (u : SX) => ¬ (f_putX st p0 p1).1 = (0 : Int32) ∧ u = (f_putX st p0 p1).2.2) (fun E (_ : SX) => E = exI (f_putX st p0 p1).1) (fun (u : SX) => wX h c u) (va_A (wX h c st) sz)) 1 6 (va_A (wX h c st) sz) := by
  refine zmx (Qf := fun A => va_Qi (fun r (u : SX) => (f_putX st p0 p1).1 = (0 : Int32) ∧ r = (f_putX st p0 p1).2.1 ∧ u = (f_putX st p0 p1).2.2) (fun u t => zw_at D vwCl A ((fun (u : SX) => wX h c u) u) t) A) (Xf := fun A => zx D vwCl (fun (u : SX) => ¬ (f_putX st p0 p1).1 = (0 : Int32) ∧ u = (f_putX st p0 p1).2.2) (fun E (_ : SX) => E = exI (f_putX st p0 p1).1) (fun (u : SX) => wX h c u) A) (Zf := fun A => zy za zk zv A) (cc := c_X_put) (nL := 4) (ret := (some .int)) (by decide) rfl (Nat.le_of_ble_eq_true rfl) ?_
  intro p e s m below meth c9 A H locs ls hx hb hml hown hts hr hlocks hA hK hP hD hS hZ hl hex
  have hY := hZ
  have hZ := hZ.1
  have hl : lv_has ls 4 [(0, .ref (h 6)), (1, .int p0), (2, .int p1)] := hl
  have ht : ∀ w9 ∈ zT, w9.before _ s = true := fun w9 h9 => hts w9 (List.mem_cons_of_mem _ h9)
  refine lv_aload_n hx hb d_X_put_0 rfl (lv_at hl 0 rfl) ?_
  refine lv_iload_n hx hb d_X_put_1 rfl (lv_at hl 1 rfl) ?_
  refine zxc_v (w2 := fun _ => wX h c st) (w3 := fun _ => wX h c st) (vx_runV (As := [.int p0]) (rest := []) ⟨hx, hb, hml, hown, ht⟩ (mt_X_checkWordAt l hlt D za zk zv h c H.size st p0) (cwV 1 ht (zgV zw_451 zw_453 zs_20 zw_1 zw_454) rfl rfl rfl kd_X_checkWordAt ⟨Nat.le_of_ble_eq_true rfl, Nat.le_of_ble_eq_true rfl⟩) ⟨zw_blind zy_bl, va_recv (hK.sub (tys' := [(c 0, .int), (c 1, .int), (c 2, .char)]) [0, 1, 2] rfl) (hP.sub (ws' := wX h c st) [0, 1, 2, 3, 4, 5, 6, 7, 8] rfl) (ci := 5) (q0 := 0) rfl rfl, zw_go (hP.sub (ws' := wX h c st) [0, 1, 2, 3, 4, 5, 6, 7, 8] rfl) (hD.sub (ws' := wX h c st) [0, 1, 2, 3, 4, 5, 6, 7, 8] (by decide) rfl) (hK.sub (tys' := [(c 0, .int), (c 1, .int), (c 2, .char)]) [0, 1, 2] rfl) (fun U hU hW => zy_go hY hS (va_free (wc := wX h c st) hD hS hA [0, 1, 2, 3, 4, 5, 6, 7, 8] rfl) hU hW)⟩ rfl rfl hl.1 rfl (lv_room (Nat.le_of_ble_eq_true rfl)) d_X_put_2 ⟨Nat.le_of_ble_eq_true rfl, Nat.le_of_ble_eq_true rfl⟩) hP hD hS hA [0, 1, 2, 3, 4, 5, 6, 7, 8] [] [0, 1, 2, 3, 4, 5, 6, 7, 8] rfl rfl (by decide) (by decide) (by decide) (fun _ => rfl) (fun _ => rfl) hex hlocks (Nat.le_of_ble_eq_true rfl) (Nat.le_of_ble_eq_true rfl) (fun E _ H locs hp hE hP hD hS => zx_at (u := st) hP hD hS ⟨by simp only [f_putX, if_neg hp]; decide, by simp only [f_putX, if_neg hp]⟩ (by rw [hE]; simp only [f_putX, if_neg hp]; rfl)) (fun _ H locs hw_1 hP hD hS => ?_)
  refine lv_aload_n hx hb d_X_put_5 rfl (lv_at hl 0 rfl) ?_
  refine va_get (D := D) (ci := 5) (v := .ref (h 1)) (C := "WindowMachine") (T := T_X) (N := 3) hx hb ht zi_X hown hK hP 0 rfl rfl 0 (by decide) (ht _ zw_174) (fun _ h9 => h9) rfl d_X_put_6 ?_
  refine lv_iload_n hx hb d_X_put_9 rfl (lv_at hl 1 rfl) ?_
  refine lv_iconst (v := (4 : Int32)) hx hb d_X_put_10 (by decide) ?_
  refine zc_i (w2 := fun _ => wX h c st) (va_runV (As := [.int p0, .int (4 : Int32)]) (rest := []) ⟨hx, hb, hml, hown, ht⟩ (mt_M_load l D (h 1) (h 2) (c 0) H.size st.1.2.2.2 p0 (4 : Int32) (cw_in hw_1)) (cwV 2 ht (zgV zw_481 zw_482 zw_483 zw_2 zw_484) rfl rfl rfl kd_M_load ⟨Nat.le_of_ble_eq_true rfl, Nat.le_of_ble_eq_true rfl⟩) ⟨zw_blind zw_tt, va_recv (hK.sub (tys' := [((c 0), .int)]) [0] rfl) (hP.sub (ws' := wM (h 1) (h 2) (c 0) st.1.2.2.2) [2, 3] rfl) (ci := 1) (q0 := 0) rfl rfl, zw_go (hP.sub (ws' := wM (h 1) (h 2) (c 0) st.1.2.2.2) [2, 3] rfl) (hD.sub (ws' := wM (h 1) (h 2) (c 0) st.1.2.2.2) [2, 3] (by decide) rfl) (hK.sub (tys' := [((c 0), .int)]) [0] rfl) (fun _ _ _ => trivial)⟩ rfl rfl hl.1 rfl (lv_room (Nat.le_of_ble_eq_true rfl)) d_X_put_11 ⟨Nat.le_of_ble_eq_true rfl, Nat.le_of_ble_eq_true rfl⟩) hP hD hS hA [2, 3] [0, 1, 4, 5, 6, 7, 8] [0, 1, 7, 8, 2, 3, 4, 5, 6] rfl rfl (by decide) (by decide) (by decide) (fun _ => rfl) (fun r_2 _ H locs hw hP hD hS => ?_)
  have er_2 := hw
  refine lv_istore_n (lv' := [(3, .int r_2), (0, .ref (h 6)), (1, .int p0), (2, .int p1)]) hx hb d_X_put_14 rfl hl (by decide) rfl (fun ls hl => ?_)
  refine lv_aload_n hx hb d_X_put_15 rfl (lv_at hl 1 rfl) ?_
  refine va_get (D := D) (ci := 5) (v := .ref (h 1)) (C := "WindowMachine") (T := T_X) (N := 3) hx hb ht zi_X hown hK hP 0 rfl rfl 0 (by decide) (ht _ zw_174) (fun _ h9 => h9) rfl d_X_put_16 ?_
  refine lv_iload_n hx hb d_X_put_19 rfl (lv_at hl 2 rfl) ?_
  refine lv_iconst (v := (4 : Int32)) hx hb d_X_put_20 (by decide) ?_
  refine lv_iload_n hx hb d_X_put_21 rfl (lv_at hl 3 rfl) ?_
  refine zc_v (w2 := fun u9 => wX h c ((st.1.1, st.1.2.1, st.1.2.2.1, u9), st.2)) (va_runV (As := [.int p0, .int (4 : Int32), .int p1]) (rest := []) ⟨hx, hb, hml, hown, ht⟩ (mt_M_store l D (h 1) (h 2) (c 0) H.size st.1.2.2.2 p0 (4 : Int32) p1 (cw_in hw_1)) (cwV 3 ht (zgV zw_464 zw_465 zw_466 zw_2 zw_467) rfl rfl rfl kd_M_store ⟨Nat.le_of_ble_eq_true rfl, Nat.le_of_ble_eq_true rfl⟩) ⟨zw_blind zw_tt, va_recv (hK.sub (tys' := [((c 0), .int)]) [0] rfl) (hP.sub (ws' := wM (h 1) (h 2) (c 0) st.1.2.2.2) [2, 3] rfl) (ci := 1) (q0 := 0) rfl rfl, zw_go (hP.sub (ws' := wM (h 1) (h 2) (c 0) st.1.2.2.2) [2, 3] rfl) (hD.sub (ws' := wM (h 1) (h 2) (c 0) st.1.2.2.2) [2, 3] (by decide) rfl) (hK.sub (tys' := [((c 0), .int)]) [0] rfl) (fun _ _ _ => trivial)⟩ rfl rfl hl.1 rfl (lv_room (Nat.le_of_ble_eq_true rfl)) d_X_put_22 ⟨Nat.le_of_ble_eq_true rfl, Nat.le_of_ble_eq_true rfl⟩) hP hD hS hA [2, 3] [0, 1, 4, 5, 6, 7, 8] [0, 1, 7, 8, 2, 3, 4, 5, 6] rfl rfl (by decide) (by decide) (by decide) (fun _ => rfl) (fun u_3 H locs hw hP hD hS => ?_)
  have eu_3 := hw
  refine lv_iload_n hx hb d_X_put_25 rfl (lv_at hl 0 rfl) ?_
  exact vx_ret (zl_i (u := ((st.1.1, st.1.2.1, st.1.2.2.1, u_3), st.2)) hx hb hr hlocks hS hP hD (⟨by simp only [f_putX, ← er_2, ← eu_3, if_pos hw_1], by simp only [f_putX, ← er_2, ← eu_3, if_pos hw_1], by simp only [f_putX, ← er_2, ← eu_3, if_pos hw_1]⟩) d_X_put_26)
theorem d_X_word_0 : decode c_X_word 0 = .ok (.aload_n 0, 1) := by decide +kernel
theorem d_X_word_1 : decode c_X_word 1 = .ok (.iload_n 1, 1) := by decide +kernel
theorem d_X_word_2 : decode c_X_word 2 = .ok (.invokevirtual 69, 3) := by decide +kernel
theorem d_X_word_5 : decode c_X_word 5 = .ok (.aload_n 0, 1) := by decide +kernel
theorem d_X_word_6 : decode c_X_word 6 = .ok (.getfield 10, 3) := by decide +kernel
theorem d_X_word_9 : decode c_X_word 9 = .ok (.iload_n 1, 1) := by decide +kernel
theorem d_X_word_10 : decode c_X_word 10 = .ok (.iconst 4, 1) := by decide +kernel
theorem d_X_word_11 : decode c_X_word 11 = .ok (.invokevirtual 77, 3) := by decide +kernel
theorem d_X_word_14 : decode c_X_word 14 = .ok (.ireturn, 1) := by decide +kernel
theorem kd_X_word : (y_X_word).cls = "WindowMachine" ∧ (y_X_word).cls ≠ "java/lang/invoke/MethodHandle" ∧ (y_X_word).cls ≠ "java/lang/invoke/VarHandle" ∧ (parseMethodDescriptor (y_X_word).desc).map (fun d => d.parameters.length) = some 1 := by decide +kernel
def f_wordX (st : SX) (p0 : Int32) : Int32 × Int32 × SX := (if f_checkWordAt p0 = (0 : Int32) then (let r_2 := f_load st.1.2.2.2 p0 (4 : Int32); ((0 : Int32), r_2, st)) else ((1 : Int32), (0 : Int32), st))
set_option maxHeartbeats 4000000 in
set_option maxRecDepth 100000 in
theorem mt_X_word (l : Launch) (hlt : l.stackTraces = false) (D : va_G) (za zk zv : Nat → Nat) (h : Nat → Nat) (c : Nat → ClassId) (sz : Nat) (st : SX) (p0 : Int32) : vx_Met l y_X_word w_X_word ({ frames := 7, cells := 1, slots := 6, locals := 107 }) (va_Pc [.ref (h 6), .int p0] (zw_pre D vwCl [(c 0, .int), (c 1, .int), (c 2, .char)] sz (wX h c st) (zy za zk zv (va_A (wX h c st) sz)))) (va_Qi (fun r (u : SX) => (f_wordX st p0).1 = (0 : Int32) ∧ r = (f_wordX st p0).2.1 ∧ u = (f_wordX st p0).2.2) (fun u t => zw_at D vwCl (va_A (wX h c st) sz) ((fun (u : SX) => wX h c u) u) t) (va_A (wX h c st) sz)) (zx D vwCl (fun (u : SX) => ¬ (f_wordX st p0).1 = (0 : Int32) ∧ u = (f_wordX st p0).2.2) (fun E (_ : SX) => E = exI (f_wordX st p0).1) (fun (u : SX) => wX h c u) (va_A (wX h c st) sz)) 1 6 (va_A (wX h c st) sz) := by
  refine zmx (Qf := fun A => va_Qi (fun r (u : SX) => (f_wordX st p0).1 = (0 : Int32) ∧ r = (f_wordX st p0).2.1 ∧ u = (f_wordX st p0).2.2) (fun u t => zw_at D vwCl A ((fun (u : SX) => wX h c u) u) t) A) (Xf := fun A => zx D vwCl (fun (u : SX) => ¬ (f_wordX st p0).1 = (0 : Int32) ∧ u = (f_wordX st p0).2.2) (fun E (_ : SX) => E = exI (f_wordX st p0).1) (fun (u : SX) => wX h c u) A) (Zf := fun A => zy za zk zv A) (cc := c_X_word) (nL := 2) (ret := (some .int)) (by decide) rfl (Nat.le_of_ble_eq_true rfl) ?_
  intro p e s m below meth c9 A H locs ls hx hb hml hown hts hr hlocks hA hK hP hD hS hZ hl hex
  have hY := hZ
  have hZ := hZ.1
  have hl : lv_has ls 2 [(0, .ref (h 6)), (1, .int p0)] := hl
  have ht : ∀ w9 ∈ zT, w9.before _ s = true := fun w9 h9 => hts w9 (List.mem_cons_of_mem _ h9)
  refine lv_aload_n hx hb d_X_word_0 rfl (lv_at hl 0 rfl) ?_
  refine lv_iload_n hx hb d_X_word_1 rfl (lv_at hl 1 rfl) ?_
  refine zxc_v (w2 := fun _ => wX h c st) (w3 := fun _ => wX h c st) (vx_runV (As := [.int p0]) (rest := []) ⟨hx, hb, hml, hown, ht⟩ (mt_X_checkWordAt l hlt D za zk zv h c H.size st p0) (cwV 1 ht (zgV zw_451 zw_453 zs_20 zw_1 zw_454) rfl rfl rfl kd_X_checkWordAt ⟨Nat.le_of_ble_eq_true rfl, Nat.le_of_ble_eq_true rfl⟩) ⟨zw_blind zy_bl, va_recv (hK.sub (tys' := [(c 0, .int), (c 1, .int), (c 2, .char)]) [0, 1, 2] rfl) (hP.sub (ws' := wX h c st) [0, 1, 2, 3, 4, 5, 6, 7, 8] rfl) (ci := 5) (q0 := 0) rfl rfl, zw_go (hP.sub (ws' := wX h c st) [0, 1, 2, 3, 4, 5, 6, 7, 8] rfl) (hD.sub (ws' := wX h c st) [0, 1, 2, 3, 4, 5, 6, 7, 8] (by decide) rfl) (hK.sub (tys' := [(c 0, .int), (c 1, .int), (c 2, .char)]) [0, 1, 2] rfl) (fun U hU hW => zy_go hY hS (va_free (wc := wX h c st) hD hS hA [0, 1, 2, 3, 4, 5, 6, 7, 8] rfl) hU hW)⟩ rfl rfl hl.1 rfl (lv_room (Nat.le_of_ble_eq_true rfl)) d_X_word_2 ⟨Nat.le_of_ble_eq_true rfl, Nat.le_of_ble_eq_true rfl⟩) hP hD hS hA [0, 1, 2, 3, 4, 5, 6, 7, 8] [] [0, 1, 2, 3, 4, 5, 6, 7, 8] rfl rfl (by decide) (by decide) (by decide) (fun _ => rfl) (fun _ => rfl) hex hlocks (Nat.le_of_ble_eq_true rfl) (Nat.le_of_ble_eq_true rfl) (fun E _ H locs hp hE hP hD hS => zx_at (u := st) hP hD hS ⟨by simp only [f_wordX, if_neg hp]; decide, by simp only [f_wordX, if_neg hp]⟩ (by rw [hE]; simp only [f_wordX, if_neg hp]; rfl)) (fun _ H locs hw_1 hP hD hS => ?_)
  refine lv_aload_n hx hb d_X_word_5 rfl (lv_at hl 0 rfl) ?_
  refine va_get (D := D) (ci := 5) (v := .ref (h 1)) (C := "WindowMachine") (T := T_X) (N := 3) hx hb ht zi_X hown hK hP 0 rfl rfl 0 (by decide) (ht _ zw_174) (fun _ h9 => h9) rfl d_X_word_6 ?_
  refine lv_iload_n hx hb d_X_word_9 rfl (lv_at hl 1 rfl) ?_
  refine lv_iconst (v := (4 : Int32)) hx hb d_X_word_10 (by decide) ?_
  refine zc_i (w2 := fun _ => wX h c st) (va_runV (As := [.int p0, .int (4 : Int32)]) (rest := []) ⟨hx, hb, hml, hown, ht⟩ (mt_M_load l D (h 1) (h 2) (c 0) H.size st.1.2.2.2 p0 (4 : Int32) (cw_in hw_1)) (cwV 2 ht (zgV zw_481 zw_482 zw_483 zw_2 zw_484) rfl rfl rfl kd_M_load ⟨Nat.le_of_ble_eq_true rfl, Nat.le_of_ble_eq_true rfl⟩) ⟨zw_blind zw_tt, va_recv (hK.sub (tys' := [((c 0), .int)]) [0] rfl) (hP.sub (ws' := wM (h 1) (h 2) (c 0) st.1.2.2.2) [2, 3] rfl) (ci := 1) (q0 := 0) rfl rfl, zw_go (hP.sub (ws' := wM (h 1) (h 2) (c 0) st.1.2.2.2) [2, 3] rfl) (hD.sub (ws' := wM (h 1) (h 2) (c 0) st.1.2.2.2) [2, 3] (by decide) rfl) (hK.sub (tys' := [((c 0), .int)]) [0] rfl) (fun _ _ _ => trivial)⟩ rfl rfl hl.1 rfl (lv_room (Nat.le_of_ble_eq_true rfl)) d_X_word_11 ⟨Nat.le_of_ble_eq_true rfl, Nat.le_of_ble_eq_true rfl⟩) hP hD hS hA [2, 3] [0, 1, 4, 5, 6, 7, 8] [0, 1, 7, 8, 2, 3, 4, 5, 6] rfl rfl (by decide) (by decide) (by decide) (fun _ => rfl) (fun r_2 _ H locs hw hP hD hS => ?_)
  have er_2 := hw
  exact vx_ret (zl_i (u := st) hx hb hr hlocks hS hP hD (⟨by simp only [f_wordX, ← er_2, if_pos hw_1], by simp only [f_wordX, ← er_2, if_pos hw_1], by simp only [f_wordX, ← er_2, if_pos hw_1]⟩) d_X_word_14)
