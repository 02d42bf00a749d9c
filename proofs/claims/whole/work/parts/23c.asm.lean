theorem d_A_target_0 : decode c_A_target 0 = .ok (.aload_n 0, 1) := by decide +kernel
theorem d_A_target_1 : decode c_A_target 1 = .ok (.invokevirtual 125, 3) := by decide +kernel
theorem d_A_target_4 : decode c_A_target 4 = .ok (.bipush 25, 2) := by decide +kernel
theorem d_A_target_6 : decode c_A_target 6 = .ok (.ishl, 1) := by decide +kernel
theorem d_A_target_7 : decode c_A_target 7 = .ok (.ireturn, 1) := by decide +kernel
theorem kd_A_target : (y_A_target).cls = "WindowMachine$Assembler" ∧ (y_A_target).cls ≠ "java/lang/invoke/MethodHandle" ∧ (y_A_target).cls ≠ "java/lang/invoke/VarHandle" ∧ (parseMethodDescriptor (y_A_target).desc).map (fun d => d.parameters.length) = some 0 := by decide +kernel
def f_target (st : SA) : Int32 × SA := (let r_1 := (f_registerNumber st).1; (let u_1 := (f_registerNumber st).2; (r_1 <<< ((25 : Int32) &&& 31), u_1)))
set_option maxHeartbeats 4000000 in
set_option maxRecDepth 100000 in
theorem mt_A_target (l : Launch) (D : va_G) (a b : Nat) (k : ClassId) (sz : Nat) (st : SA) (hA9 : okA st) : Met l y_A_target w_A_target ({ frames := 3, cells := 0, slots := 0, locals := 66 }) (va_Pc [.ref a] (zw_pre D vwCl [(k, .char)] sz (wA a b k st) (fun _ => True))) (va_Qi (fun r (u : SA) => r = (f_target st).1 ∧ u = (f_target st).2) (fun u t => zw_at D vwCl (va_A (wA a b k st) sz) ((fun (u : SA) => wA a b k u) u) t) (va_A (wA a b k st) sz)) 0 0 (va_A (wA a b k st) sz) := by
  refine zm (Qf := fun A => va_Qi (fun r (u : SA) => r = (f_target st).1 ∧ u = (f_target st).2) (fun u t => zw_at D vwCl A ((fun (u : SA) => wA a b k u) u) t) A) (Zf := fun _ _ => True) (cc := c_A_target) (nL := 1) (ret := (some .int)) (by decide) rfl (Nat.le_of_ble_eq_true rfl) ?_
  intro p e s m below meth c9 A H locs ls hx hb hml hown hts hr hlocks hA hK hP hD hS hZ hl
  have hl : lv_has ls 1 [(0, .ref a)] := hl
  have ht : ∀ w9 ∈ zT, w9.before _ s = true := fun w9 h9 => hts w9 (List.mem_cons_of_mem _ h9)
  refine lv_aload_n hx hb d_A_target_0 rfl (lv_at hl 0 rfl) ?_
  refine zc_i (w2 := fun u9 => wA a b k u9) (va_runV (As := []) (rest := []) ⟨hx, hb, hml, hown, ht⟩ (mt_A_registerNumber l D a b k H.size st hA9) (cwV 0 ht (zgV zw_416 zw_418 zs_13 zw_3 zw_419) rfl rfl rfl kd_A_registerNumber ⟨Nat.le_of_ble_eq_true rfl, Nat.le_of_ble_eq_true rfl⟩) ⟨zw_blind zw_tt, va_recv (hK.sub (tys' := [(k, .char)]) [0] rfl) (hP.sub (ws' := wA a b k st) [0, 1] rfl) (ci := 0) (q0 := 0) rfl rfl, zw_go (hP.sub (ws' := wA a b k st) [0, 1] rfl) (hD.sub (ws' := wA a b k st) [0, 1] (by decide) rfl) (hK.sub (tys' := [(k, .char)]) [0] rfl) (fun _ _ _ => trivial)⟩ rfl rfl hl.1 rfl (lv_room (Nat.le_of_ble_eq_true rfl)) d_A_target_1 ⟨Nat.le_of_ble_eq_true rfl, Nat.le_of_ble_eq_true rfl⟩) hP hD hS hA [0, 1] [] [0, 1] rfl rfl (by decide) (by decide) (by decide) (fun _ => rfl) (fun r_1 u_1 H locs hw hP hD hS => ?_)
  obtain ⟨er_1, eu_1⟩ := hw
  have ok_1 : okA u_1 := by rw [eu_1]; exact (ok_registerNumber hA9)
  refine lv_bipush (v := (25 : Int32)) hx hb d_A_target_4 (by decide) ?_
  refine lv_ishl hx hb d_A_target_6 ?_
  exact zl_i (u := u_1) hx hb hr hlocks hS hP hD (⟨by simp only [f_target, ← er_1, ← eu_1], by simp only [f_target, ← er_1, ← eu_1]⟩) d_A_target_7
theorem ok_target {st : SA} (h : okA st) : okA (f_target st).2 := by
  unfold f_target
  dsimp only
  exact ok_registerNumber h
theorem d_A_sources_0 : decode c_A_sources 0 = .ok (.aload_n 0, 1) := by decide +kernel
theorem d_A_sources_1 : decode c_A_sources 1 = .ok (.aload_n 0, 1) := by decide +kernel
theorem d_A_sources_2 : decode c_A_sources 2 = .ok (.invokevirtual 125, 3) := by decide +kernel
theorem d_A_sources_5 : decode c_A_sources 5 = .ok (.invokevirtual 112, 3) := by decide +kernel
theorem d_A_sources_8 : decode c_A_sources 8 = .ok (.bipush 14, 2) := by decide +kernel
theorem d_A_sources_10 : decode c_A_sources 10 = .ok (.ishl, 1) := by decide +kernel
theorem d_A_sources_11 : decode c_A_sources 11 = .ok (.istore_n 1, 1) := by decide +kernel
theorem d_A_sources_12 : decode c_A_sources 12 = .ok (.aload_n 0, 1) := by decide +kernel
theorem d_A_sources_13 : decode c_A_sources 13 = .ok (.getfield 26, 3) := by decide +kernel
theorem d_A_sources_16 : decode c_A_sources 16 = .ok (.aload_n 0, 1) := by decide +kernel
theorem d_A_sources_17 : decode c_A_sources 17 = .ok (.getfield 23, 3) := by decide +kernel
theorem d_A_sources_20 : decode c_A_sources 20 = .ok (.if_icmp .ge 24, 3) := by decide +kernel
theorem d_A_sources_23 : decode c_A_sources 23 = .ok (.aload_n 0, 1) := by decide +kernel
theorem d_A_sources_24 : decode c_A_sources 24 = .ok (.getfield 11, 3) := by decide +kernel
theorem d_A_sources_27 : decode c_A_sources 27 = .ok (.aload_n 0, 1) := by decide +kernel
theorem d_A_sources_28 : decode c_A_sources 28 = .ok (.getfield 26, 3) := by decide +kernel
theorem d_A_sources_31 : decode c_A_sources 31 = .ok (.caload, 1) := by decide +kernel
theorem d_A_sources_32 : decode c_A_sources 32 = .ok (.bipush 37, 2) := by decide +kernel
theorem d_A_sources_34 : decode c_A_sources 34 = .ok (.if_icmp .ne 10, 3) := by decide +kernel
theorem d_A_sources_37 : decode c_A_sources 37 = .ok (.iload_n 1, 1) := by decide +kernel
theorem d_A_sources_38 : decode c_A_sources 38 = .ok (.aload_n 0, 1) := by decide +kernel
theorem d_A_sources_39 : decode c_A_sources 39 = .ok (.invokevirtual 125, 3) := by decide +kernel
theorem d_A_sources_42 : decode c_A_sources 42 = .ok (.ior, 1) := by decide +kernel
theorem d_A_sources_43 : decode c_A_sources 43 = .ok (.ireturn, 1) := by decide +kernel
theorem d_A_sources_44 : decode c_A_sources 44 = .ok (.iload_n 1, 1) := by decide +kernel
theorem d_A_sources_45 : decode c_A_sources 45 = .ok (.sipush 8192, 3) := by decide +kernel
theorem d_A_sources_48 : decode c_A_sources 48 = .ok (.ior, 1) := by decide +kernel
theorem d_A_sources_49 : decode c_A_sources 49 = .ok (.aload_n 0, 1) := by decide +kernel
theorem d_A_sources_50 : decode c_A_sources 50 = .ok (.sipush (-4096), 3) := by decide +kernel
theorem d_A_sources_53 : decode c_A_sources 53 = .ok (.sipush 4095, 3) := by decide +kernel
theorem d_A_sources_56 : decode c_A_sources 56 = .ok (.invokevirtual 116, 3) := by decide +kernel
theorem d_A_sources_59 : decode c_A_sources 59 = .ok (.ior, 1) := by decide +kernel
theorem d_A_sources_60 : decode c_A_sources 60 = .ok (.ireturn, 1) := by decide +kernel
theorem kd_A_sources : (y_A_sources).cls = "WindowMachine$Assembler" ∧ (y_A_sources).cls ≠ "java/lang/invoke/MethodHandle" ∧ (y_A_sources).cls ≠ "java/lang/invoke/VarHandle" ∧ (parseMethodDescriptor (y_A_sources).desc).map (fun d => d.parameters.length) = some 0 := by decide +kernel
def f_sources (st : SA) : Int32 × SA := (let r_1 := (f_registerNumber st).1; (let u_1 := (f_registerNumber st).2; (let r_2 := (f_behind u_1 r_1).1; (let u_2 := (f_behind u_1 r_1).2; (let x_3 := r_2 <<< ((14 : Int32) &&& 31); (if (u_2.1 0) ≤ (u_2.1 1) then (let r_5 := (f_number u_2 (-4096 : Int32) (4095 : Int32)).1; (let u_5 := (f_number u_2 (-4096 : Int32) (4095 : Int32)).2; ((x_3 ||| (8192 : Int32)) ||| r_5, u_5))) else (if (u_2.2 (u_2.1 1).toNatClampNeg) = (37 : Int32) then (let r_8 := (f_registerNumber u_2).1; (let u_8 := (f_registerNumber u_2).2; (x_3 ||| r_8, u_8))) else (let r_7 := (f_number u_2 (-4096 : Int32) (4095 : Int32)).1; (let u_7 := (f_number u_2 (-4096 : Int32) (4095 : Int32)).2; ((x_3 ||| (8192 : Int32)) ||| r_7, u_7))))))))))
set_option maxHeartbeats 4000000 in
set_option maxRecDepth 100000 in
theorem mt_A_sources (l : Launch) (D : va_G) (a b : Nat) (k : ClassId) (sz : Nat) (st : SA) (hA9 : okA st) : Met l y_A_sources w_A_sources ({ frames := 3, cells := 0, slots := 0, locals := 70 }) (va_Pc [.ref a] (zw_pre D vwCl [(k, .char)] sz (wA a b k st) (fun _ => True))) (va_Qi (fun r (u : SA) => r = (f_sources st).1 ∧ u = (f_sources st).2) (fun u t => zw_at D vwCl (va_A (wA a b k st) sz) ((fun (u : SA) => wA a b k u) u) t) (va_A (wA a b k st) sz)) 0 0 (va_A (wA a b k st) sz) := by
  refine zm (Qf := fun A => va_Qi (fun r (u : SA) => r = (f_sources st).1 ∧ u = (f_sources st).2) (fun u t => zw_at D vwCl A ((fun (u : SA) => wA a b k u) u) t) A) (Zf := fun _ _ => True) (cc := c_A_sources) (nL := 2) (ret := (some .int)) (by decide) rfl (Nat.le_of_ble_eq_true rfl) ?_
  intro p e s m below meth c9 A H locs ls hx hb hml hown hts hr hlocks hA hK hP hD hS hZ hl
  have hl : lv_has ls 2 [(0, .ref a)] := hl
  have ht : ∀ w9 ∈ zT, w9.before _ s = true := fun w9 h9 => hts w9 (List.mem_cons_of_mem _ h9)
  refine lv_aload_n hx hb d_A_sources_0 rfl (lv_at hl 0 rfl) ?_
  refine lv_aload_n hx hb d_A_sources_1 rfl (lv_at hl 0 rfl) ?_
  refine zc_i (w2 := fun u9 => wA a b k u9) (va_runV (As := []) (rest := [.ref a]) ⟨hx, hb, hml, hown, ht⟩ (mt_A_registerNumber l D a b k H.size st hA9) (cwV 0 ht (zgV zw_416 zw_418 zs_13 zw_3 zw_419) rfl rfl rfl kd_A_registerNumber ⟨Nat.le_of_ble_eq_true rfl, Nat.le_of_ble_eq_true rfl⟩) ⟨zw_blind zw_tt, va_recv (hK.sub (tys' := [(k, .char)]) [0] rfl) (hP.sub (ws' := wA a b k st) [0, 1] rfl) (ci := 0) (q0 := 0) rfl rfl, zw_go (hP.sub (ws' := wA a b k st) [0, 1] rfl) (hD.sub (ws' := wA a b k st) [0, 1] (by decide) rfl) (hK.sub (tys' := [(k, .char)]) [0] rfl) (fun _ _ _ => trivial)⟩ rfl rfl hl.1 rfl (lv_room (Nat.le_of_ble_eq_true rfl)) d_A_sources_2 ⟨Nat.le_of_ble_eq_true rfl, Nat.le_of_ble_eq_true rfl⟩) hP hD hS hA [0, 1] [] [0, 1] rfl rfl (by decide) (by decide) (by decide) (fun _ => rfl) (fun r_1 u_1 H locs hw hP hD hS => ?_)
  obtain ⟨er_1, eu_1⟩ := hw
  have ok_1 : okA u_1 := by rw [eu_1]; exact (ok_registerNumber hA9)
  refine zc_i (w2 := fun u9 => wA a b k u9) (va_runV (As := [.int r_1]) (rest := []) ⟨hx, hb, hml, hown, ht⟩ (mt_A_behind l D a b k H.size u_1 r_1 ok_1) (cwV 1 ht (zgV zw_432 zw_434 zs_17 zw_3 zw_435) rfl rfl rfl kd_A_behind ⟨Nat.le_of_ble_eq_true rfl, Nat.le_of_ble_eq_true rfl⟩) ⟨zw_blind zw_tt, va_recv (hK.sub (tys' := [(k, .char)]) [0] rfl) (hP.sub (ws' := wA a b k u_1) [0, 1] rfl) (ci := 0) (q0 := 0) rfl rfl, zw_go (hP.sub (ws' := wA a b k u_1) [0, 1] rfl) (hD.sub (ws' := wA a b k u_1) [0, 1] (by decide) rfl) (hK.sub (tys' := [(k, .char)]) [0] rfl) (fun _ _ _ => trivial)⟩ rfl rfl hl.1 rfl (lv_room (Nat.le_of_ble_eq_true rfl)) d_A_sources_5 ⟨Nat.le_of_ble_eq_true rfl, Nat.le_of_ble_eq_true rfl⟩) hP hD hS hA [0, 1] [] [0, 1] rfl rfl (by decide) (by decide) (by decide) (fun _ => rfl) (fun r_2 u_2 H locs hw hP hD hS => ?_)
  obtain ⟨er_2, eu_2⟩ := hw
  have ok_2 : okA u_2 := by rw [eu_2]; exact (ok_behind ok_1)
  refine lv_bipush (v := (14 : Int32)) hx hb d_A_sources_8 (by decide) ?_
  refine lv_ishl hx hb d_A_sources_10 ?_
  refine lv_topi (fun x_3 ex_3 => ?_)
  refine lv_istore_n (lv' := [(1, .int x_3), (0, .ref a)]) hx hb d_A_sources_11 rfl hl (by decide) rfl (fun ls hl => ?_)
  refine lv_aload_n hx hb d_A_sources_12 rfl (lv_at hl 1 rfl) ?_
  refine va_get (D := D) (ci := 0) (v := .int (u_2.1 1)) (C := "WindowMachine$Assembler") (T := T_A) (N := 5) hx hb ht zi_A hown hK hP 0 rfl rfl 2 (by decide) (ht _ zw_47) (fun _ h9 => h9) rfl d_A_sources_13 ?_
  refine lv_aload_n hx hb d_A_sources_16 rfl (lv_at hl 1 rfl) ?_
  refine va_get (D := D) (ci := 0) (v := .int (u_2.1 0)) (C := "WindowMachine$Assembler") (T := T_A) (N := 5) hx hb ht zi_A hown hK hP 0 rfl rfl 1 (by decide) (ht _ zw_46) (fun _ h9 => h9) rfl d_A_sources_17 ?_
  refine lv_icmp_ge (tgt := 44) hx hb d_A_sources_20 (by decide) (fun c_4 => ?_) (fun c_4 => ?_)
  · refine lv_iload_n hx hb d_A_sources_44 rfl (lv_at hl 0 rfl) ?_
    refine lv_sipush (v := (8192 : Int32)) hx hb d_A_sources_45 (by decide) ?_
    refine lv_ior hx hb d_A_sources_48 ?_
    refine lv_aload_n hx hb d_A_sources_49 rfl (lv_at hl 1 rfl) ?_
    refine lv_sipush (v := (-4096 : Int32)) hx hb d_A_sources_50 (by decide) ?_
    refine lv_sipush (v := (4095 : Int32)) hx hb d_A_sources_53 (by decide) ?_
    refine zc_i (w2 := fun u9 => wA a b k u9) (va_runV (As := [.int (-4096 : Int32), .int (4095 : Int32)]) (rest := [.int (x_3 ||| (8192 : Int32))]) ⟨hx, hb, hml, hown, ht⟩ (mt_A_number l D a b k H.size u_2 (-4096 : Int32) (4095 : Int32) ok_2) (cwV 2 ht (zgV zw_436 zw_438 zs_18 zw_3 zw_439) rfl rfl rfl kd_A_number ⟨Nat.le_of_ble_eq_true rfl, Nat.le_of_ble_eq_true rfl⟩) ⟨zw_blind zw_tt, va_recv (hK.sub (tys' := [(k, .char)]) [0] rfl) (hP.sub (ws' := wA a b k u_2) [0, 1] rfl) (ci := 0) (q0 := 0) rfl rfl, zw_go (hP.sub (ws' := wA a b k u_2) [0, 1] rfl) (hD.sub (ws' := wA a b k u_2) [0, 1] (by decide) rfl) (hK.sub (tys' := [(k, .char)]) [0] rfl) (fun _ _ _ => trivial)⟩ rfl rfl hl.1 rfl (lv_room (Nat.le_of_ble_eq_true rfl)) d_A_sources_56 ⟨Nat.le_of_ble_eq_true rfl, Nat.le_of_ble_eq_true rfl⟩) hP hD hS hA [0, 1] [] [0, 1] rfl rfl (by decide) (by decide) (by decide) (fun _ => rfl) (fun r_5 u_5 H locs hw hP hD hS => ?_)
    obtain ⟨er_5, eu_5⟩ := hw
    have ok_5 : okA u_5 := by rw [eu_5]; exact (ok_number ok_2)
    refine lv_ior hx hb d_A_sources_59 ?_
    exact zl_i (u := u_5) hx hb hr hlocks hS hP hD (⟨by simp only [f_sources, ← er_1, ← eu_1, ← er_2, ← eu_2, ← ex_3, ← er_5, ← eu_5, if_pos c_4], by simp only [f_sources, ← er_1, ← eu_1, ← er_2, ← eu_2, ← ex_3, ← er_5, ← eu_5, if_pos c_4]⟩) d_A_sources_60
  refine lv_aload_n hx hb d_A_sources_23 rfl (lv_at hl 1 rfl) ?_
  refine va_get (D := D) (ci := 0) (v := .ref b) (C := "WindowMachine$Assembler") (T := T_A) (N := 5) hx hb ht zi_A hown hK hP 0 rfl rfl 0 (by decide) (ht _ zw_44) (fun _ h9 => h9) rfl d_A_sources_24 ?_
  refine lv_aload_n hx hb d_A_sources_27 rfl (lv_at hl 1 rfl) ?_
  refine va_get (D := D) (ci := 0) (v := .int (u_2.1 1)) (C := "WindowMachine$Assembler") (T := T_A) (N := 5) hx hb ht zi_A hown hK hP 0 rfl rfl 2 (by decide) (ht _ zw_47) (fun _ h9 => h9) rfl d_A_sources_28 ?_
  refine va_cald hx hb hK hP 1 0 rfl rfl (at_in ok_2 c_4) d_A_sources_31 ?_
  refine lv_bipush (v := (37 : Int32)) hx hb d_A_sources_32 (by decide) ?_
  refine lv_icmp_ne (tgt := 44) hx hb d_A_sources_34 (by decide) (fun c_6 => ?_) (fun c_6 => ?_)
  · refine lv_iload_n hx hb d_A_sources_44 rfl (lv_at hl 0 rfl) ?_
    refine lv_sipush (v := (8192 : Int32)) hx hb d_A_sources_45 (by decide) ?_
    refine lv_ior hx hb d_A_sources_48 ?_
    refine lv_aload_n hx hb d_A_sources_49 rfl (lv_at hl 1 rfl) ?_
    refine lv_sipush (v := (-4096 : Int32)) hx hb d_A_sources_50 (by decide) ?_
    refine lv_sipush (v := (4095 : Int32)) hx hb d_A_sources_53 (by decide) ?_
    refine zc_i (w2 := fun u9 => wA a b k u9) (va_runV (As := [.int (-4096 : Int32), .int (4095 : Int32)]) (rest := [.int (x_3 ||| (8192 : Int32))]) ⟨hx, hb, hml, hown, ht⟩ (mt_A_number l D a b k H.size u_2 (-4096 : Int32) (4095 : Int32) ok_2) (cwV 2 ht (zgV zw_436 zw_438 zs_18 zw_3 zw_439) rfl rfl rfl kd_A_number ⟨Nat.le_of_ble_eq_true rfl, Nat.le_of_ble_eq_true rfl⟩) ⟨zw_blind zw_tt, va_recv (hK.sub (tys' := [(k, .char)]) [0] rfl) (hP.sub (ws' := wA a b k u_2) [0, 1] rfl) (ci := 0) (q0 := 0) rfl rfl, zw_go (hP.sub (ws' := wA a b k u_2) [0, 1] rfl) (hD.sub (ws' := wA a b k u_2) [0, 1] (by decide) rfl) (hK.sub (tys' := [(k, .char)]) [0] rfl) (fun _ _ _ => trivial)⟩ rfl rfl hl.1 rfl (lv_room (Nat.le_of_ble_eq_true rfl)) d_A_sources_56 ⟨Nat.le_of_ble_eq_true rfl, Nat.le_of_ble_eq_true rfl⟩) hP hD hS hA [0, 1] [] [0, 1] rfl rfl (by decide) (by decide) (by decide) (fun _ => rfl) (fun r_7 u_7 H locs hw hP hD hS => ?_)
    obtain ⟨er_7, eu_7⟩ := hw
    have ok_7 : okA u_7 := by rw [eu_7]; exact (ok_number ok_2)
    refine lv_ior hx hb d_A_sources_59 ?_
    exact zl_i (u := u_7) hx hb hr hlocks hS hP hD (⟨by simp only [f_sources, ← er_1, ← eu_1, ← er_2, ← eu_2, ← ex_3, ← er_7, ← eu_7, if_neg c_4, if_neg c_6], by simp only [f_sources, ← er_1, ← eu_1, ← er_2, ← eu_2, ← ex_3, ← er_7, ← eu_7, if_neg c_4, if_neg c_6]⟩) d_A_sources_60
  refine lv_iload_n hx hb d_A_sources_37 rfl (lv_at hl 0 rfl) ?_
  refine lv_aload_n hx hb d_A_sources_38 rfl (lv_at hl 1 rfl) ?_
  refine zc_i (w2 := fun u9 => wA a b k u9) (va_runV (As := []) (rest := [.int x_3]) ⟨hx, hb, hml, hown, ht⟩ (mt_A_registerNumber l D a b k H.size u_2 ok_2) (cwV 0 ht (zgV zw_416 zw_418 zs_13 zw_3 zw_419) rfl rfl rfl kd_A_registerNumber ⟨Nat.le_of_ble_eq_true rfl, Nat.le_of_ble_eq_true rfl⟩) ⟨zw_blind zw_tt, va_recv (hK.sub (tys' := [(k, .char)]) [0] rfl) (hP.sub (ws' := wA a b k u_2) [0, 1] rfl) (ci := 0) (q0 := 0) rfl rfl, zw_go (hP.sub (ws' := wA a b k u_2) [0, 1] rfl) (hD.sub (ws' := wA a b k u_2) [0, 1] (by decide) rfl) (hK.sub (tys' := [(k, .char)]) [0] rfl) (fun _ _ _ => trivial)⟩ rfl rfl hl.1 rfl (lv_room (Nat.le_of_ble_eq_true rfl)) d_A_sources_39 ⟨Nat.le_of_ble_eq_true rfl, Nat.le_of_ble_eq_true rfl⟩) hP hD hS hA [0, 1] [] [0, 1] rfl rfl (by decide) (by decide) (by decide) (fun _ => rfl) (fun r_8 u_8 H locs hw hP hD hS => ?_)
  obtain ⟨er_8, eu_8⟩ := hw
  have ok_8 : okA u_8 := by rw [eu_8]; exact (ok_registerNumber ok_2)
  refine lv_ior hx hb d_A_sources_42 ?_
  exact zl_i (u := u_8) hx hb hr hlocks hS hP hD (⟨by simp only [f_sources, ← er_1, ← eu_1, ← er_2, ← eu_2, ← ex_3, ← er_8, ← eu_8, if_neg c_4, if_pos c_6], by simp only [f_sources, ← er_1, ← eu_1, ← er_2, ← eu_2, ← ex_3, ← er_8, ← eu_8, if_neg c_4, if_pos c_6]⟩) d_A_sources_43
theorem ok_sources {st : SA} (h : okA st) : okA (f_sources st).2 := by
  have h1 := ok_behind (p := (f_registerNumber st).1) (ok_registerNumber h)
  unfold f_sources
  dsimp only
  repeat' first | with_reducible exact ok_number h1 | with_reducible exact ok_registerNumber h1 | with_reducible refine okA_ite2 ?_ ?_
theorem d_A_distanceAndAnnul_0 : decode c_A_distanceAndAnnul 0 = .ok (.aload_n 0, 1) := by decide +kernel
theorem d_A_distanceAndAnnul_1 : decode c_A_distanceAndAnnul 1 = .ok (.ldc 128, 2) := by decide +kernel
theorem d_A_distanceAndAnnul_3 : decode c_A_distanceAndAnnul 3 = .ok (.ldc 129, 2) := by decide +kernel
theorem d_A_distanceAndAnnul_5 : decode c_A_distanceAndAnnul 5 = .ok (.invokevirtual 116, 3) := by decide +kernel
theorem d_A_distanceAndAnnul_8 : decode c_A_distanceAndAnnul 8 = .ok (.istore_n 1, 1) := by decide +kernel
theorem d_A_distanceAndAnnul_9 : decode c_A_distanceAndAnnul 9 = .ok (.aload_n 0, 1) := by decide +kernel
theorem d_A_distanceAndAnnul_10 : decode c_A_distanceAndAnnul 10 = .ok (.invokevirtual 36, 3) := by decide +kernel
theorem d_A_distanceAndAnnul_13 : decode c_A_distanceAndAnnul 13 = .ok (.ifCond .eq 14, 3) := by decide +kernel
theorem d_A_distanceAndAnnul_16 : decode c_A_distanceAndAnnul 16 = .ok (.aload_n 0, 1) := by decide +kernel
theorem d_A_distanceAndAnnul_17 : decode c_A_distanceAndAnnul 17 = .ok (.getfield 26, 3) := by decide +kernel
theorem d_A_distanceAndAnnul_20 : decode c_A_distanceAndAnnul 20 = .ok (.aload_n 0, 1) := by decide +kernel
theorem d_A_distanceAndAnnul_21 : decode c_A_distanceAndAnnul 21 = .ok (.getfield 23, 3) := by decide +kernel
theorem d_A_distanceAndAnnul_24 : decode c_A_distanceAndAnnul 24 = .ok (.if_icmp .ne 5, 3) := by decide +kernel
theorem d_A_distanceAndAnnul_27 : decode c_A_distanceAndAnnul 27 = .ok (.iload_n 1, 1) := by decide +kernel
theorem d_A_distanceAndAnnul_28 : decode c_A_distanceAndAnnul 28 = .ok (.ireturn, 1) := by decide +kernel
theorem d_A_distanceAndAnnul_29 : decode c_A_distanceAndAnnul 29 = .ok (.aload_n 0, 1) := by decide +kernel
theorem d_A_distanceAndAnnul_30 : decode c_A_distanceAndAnnul 30 = .ok (.bipush 44, 2) := by decide +kernel
theorem d_A_distanceAndAnnul_32 : decode c_A_distanceAndAnnul 32 = .ok (.invokevirtual 102, 3) := by decide +kernel
theorem d_A_distanceAndAnnul_35 : decode c_A_distanceAndAnnul 35 = .ok (.aload_n 0, 1) := by decide +kernel
theorem d_A_distanceAndAnnul_36 : decode c_A_distanceAndAnnul 36 = .ok (.bipush 97, 2) := by decide +kernel
theorem d_A_distanceAndAnnul_38 : decode c_A_distanceAndAnnul 38 = .ok (.invokevirtual 102, 3) := by decide +kernel
theorem d_A_distanceAndAnnul_41 : decode c_A_distanceAndAnnul 41 = .ok (.iload_n 1, 1) := by decide +kernel
theorem d_A_distanceAndAnnul_42 : decode c_A_distanceAndAnnul 42 = .ok (.ldc 130, 2) := by decide +kernel
theorem d_A_distanceAndAnnul_44 : decode c_A_distanceAndAnnul 44 = .ok (.ior, 1) := by decide +kernel
theorem d_A_distanceAndAnnul_45 : decode c_A_distanceAndAnnul 45 = .ok (.ireturn, 1) := by decide +kernel
theorem kd_A_distanceAndAnnul : (y_A_distanceAndAnnul).cls = "WindowMachine$Assembler" ∧ (y_A_distanceAndAnnul).cls ≠ "java/lang/invoke/MethodHandle" ∧ (y_A_distanceAndAnnul).cls ≠ "java/lang/invoke/VarHandle" ∧ (parseMethodDescriptor (y_A_distanceAndAnnul).desc).map (fun d => d.parameters.length) = some 0 := by decide +kernel
def f_distanceAndAnnul (st : SA) : Int32 × SA := (let r_1 := (f_number st (-2097152 : Int32) (2097151 : Int32)).1; (let u_1 := (f_number st (-2097152 : Int32) (2097151 : Int32)).2; (if (f_isGood u_1) = (0 : Int32) then (r_1, u_1) else (if (u_1.1 1) = (u_1.1 0) then (r_1, u_1) else (let u_5 := f_expect u_1 (44 : Int32); (let u_6 := f_expect u_5 (97 : Int32); (r_1 ||| (536870912 : Int32), u_6)))))))
set_option maxHeartbeats 4000000 in
set_option maxRecDepth 100000 in
theorem mt_A_distanceAndAnnul (l : Launch) (D : va_G) (a b : Nat) (k : ClassId) (sz : Nat) (st : SA) (hA9 : okA st) : Met l y_A_distanceAndAnnul w_A_distanceAndAnnul ({ frames := 3, cells := 0, slots := 0, locals := 70 }) (va_Pc [.ref a] (zw_pre D vwCl [(k, .char)] sz (wA a b k st) (fun _ => True))) (va_Qi (fun r (u : SA) => r = (f_distanceAndAnnul st).1 ∧ u = (f_distanceAndAnnul st).2) (fun u t => zw_at D vwCl (va_A (wA a b k st) sz) ((fun (u : SA) => wA a b k u) u) t) (va_A (wA a b k st) sz)) 0 0 (va_A (wA a b k st) sz) := by
  refine zm (Qf := fun A => va_Qi (fun r (u : SA) => r = (f_distanceAndAnnul st).1 ∧ u = (f_distanceAndAnnul st).2) (fun u t => zw_at D vwCl A ((fun (u : SA) => wA a b k u) u) t) A) (Zf := fun _ _ => True) (cc := c_A_distanceAndAnnul) (nL := 2) (ret := (some .int)) (by decide) rfl (Nat.le_of_ble_eq_true rfl) ?_
  intro p e s m below meth c9 A H locs ls hx hb hml hown hts hr hlocks hA hK hP hD hS hZ hl
  have hl : lv_has ls 2 [(0, .ref a)] := hl
  have ht : ∀ w9 ∈ zT, w9.before _ s = true := fun w9 h9 => hts w9 (List.mem_cons_of_mem _ h9)
  refine lv_aload_n hx hb d_A_distanceAndAnnul_0 rfl (lv_at hl 0 rfl) ?_
  refine lv_ldc (v := (-2097152 : Int32)) hx hb hown (ht _ zw_447) d_A_distanceAndAnnul_1 ?_
  refine lv_ldc (v := (2097151 : Int32)) hx hb hown (ht _ zw_448) d_A_distanceAndAnnul_3 ?_
  refine zc_i (w2 := fun u9 => wA a b k u9) (va_runV (As := [.int (-2097152 : Int32), .int (2097151 : Int32)]) (rest := []) ⟨hx, hb, hml, hown, ht⟩ (mt_A_number l D a b k H.size st (-2097152 : Int32) (2097151 : Int32) hA9) (cwV 2 ht (zgV zw_436 zw_438 zs_18 zw_3 zw_439) rfl rfl rfl kd_A_number ⟨Nat.le_of_ble_eq_true rfl, Nat.le_of_ble_eq_true rfl⟩) ⟨zw_blind zw_tt, va_recv (hK.sub (tys' := [(k, .char)]) [0] rfl) (hP.sub (ws' := wA a b k st) [0, 1] rfl) (ci := 0) (q0 := 0) rfl rfl, zw_go (hP.sub (ws' := wA a b k st) [0, 1] rfl) (hD.sub (ws' := wA a b k st) [0, 1] (by decide) rfl) (hK.sub (tys' := [(k, .char)]) [0] rfl) (fun _ _ _ => trivial)⟩ rfl rfl hl.1 rfl (lv_room (Nat.le_of_ble_eq_true rfl)) d_A_distanceAndAnnul_5 ⟨Nat.le_of_ble_eq_true rfl, Nat.le_of_ble_eq_true rfl⟩) hP hD hS hA [0, 1] [] [0, 1] rfl rfl (by decide) (by decide) (by decide) (fun _ => rfl) (fun r_1 u_1 H locs hw hP hD hS => ?_)
  obtain ⟨er_1, eu_1⟩ := hw
  have ok_1 : okA u_1 := by rw [eu_1]; exact (ok_number hA9)
  refine lv_istore_n (lv' := [(1, .int r_1), (0, .ref a)]) hx hb d_A_distanceAndAnnul_8 rfl hl (by decide) rfl (fun ls hl => ?_)
  refine lv_aload_n hx hb d_A_distanceAndAnnul_9 rfl (lv_at hl 1 rfl) ?_
  refine zc_i (w2 := fun _ => wA a b k u_1) (va_runV (As := []) (rest := []) ⟨hx, hb, hml, hown, ht⟩ (mt_A_isGood l D a b k H.size u_1) (cwV 0 ht (zgV zw_408 zw_410 zs_11 zw_3 zw_411) rfl rfl rfl kd_A_isGood ⟨Nat.le_of_ble_eq_true rfl, Nat.le_of_ble_eq_true rfl⟩) ⟨zw_blind zw_tt, va_recv (hK.sub (tys' := [(k, .char)]) [0] rfl) (hP.sub (ws' := wA a b k u_1) [0, 1] rfl) (ci := 0) (q0 := 0) rfl rfl, zw_go (hP.sub (ws' := wA a b k u_1) [0, 1] rfl) (hD.sub (ws' := wA a b k u_1) [0, 1] (by decide) rfl) (hK.sub (tys' := [(k, .char)]) [0] rfl) (fun _ _ _ => trivial)⟩ rfl rfl hl.1 rfl (lv_room (Nat.le_of_ble_eq_true rfl)) d_A_distanceAndAnnul_10 ⟨Nat.le_of_ble_eq_true rfl, Nat.le_of_ble_eq_true rfl⟩) hP hD hS hA [0, 1] [] [0, 1] rfl rfl (by decide) (by decide) (by decide) (fun _ => rfl) (fun r_2 _ H locs hw hP hD hS => ?_)
  subst hw
  refine lv_if_eq (tgt := 27) hx hb d_A_distanceAndAnnul_13 (by decide) (fun c_3 => ?_) (fun c_3 => ?_)
  · refine lv_iload_n hx hb d_A_distanceAndAnnul_27 rfl (lv_at hl 0 rfl) ?_
    exact zl_i (u := u_1) hx hb hr hlocks hS hP hD (⟨by simp only [f_distanceAndAnnul, ← er_1, ← eu_1, if_pos c_3], by simp only [f_distanceAndAnnul, ← er_1, ← eu_1, if_pos c_3]⟩) d_A_distanceAndAnnul_28
  refine lv_aload_n hx hb d_A_distanceAndAnnul_16 rfl (lv_at hl 1 rfl) ?_
  refine va_get (D := D) (ci := 0) (v := .int (u_1.1 1)) (C := "WindowMachine$Assembler") (T := T_A) (N := 5) hx hb ht zi_A hown hK hP 0 rfl rfl 2 (by decide) (ht _ zw_47) (fun _ h9 => h9) rfl d_A_distanceAndAnnul_17 ?_
  refine lv_aload_n hx hb d_A_distanceAndAnnul_20 rfl (lv_at hl 1 rfl) ?_
  refine va_get (D := D) (ci := 0) (v := .int (u_1.1 0)) (C := "WindowMachine$Assembler") (T := T_A) (N := 5) hx hb ht zi_A hown hK hP 0 rfl rfl 1 (by decide) (ht _ zw_46) (fun _ h9 => h9) rfl d_A_distanceAndAnnul_21 ?_
  refine lv_icmp_ne (tgt := 29) hx hb d_A_distanceAndAnnul_24 (by decide) (fun c_4 => ?_) (fun c_4 => ?_)
  · refine lv_aload_n hx hb d_A_distanceAndAnnul_29 rfl (lv_at hl 1 rfl) ?_
    refine lv_bipush (v := (44 : Int32)) hx hb d_A_distanceAndAnnul_30 (by decide) ?_
    refine zc_v (w2 := fun u9 => wA a b k u9) (va_runV (As := [.int (44 : Int32)]) (rest := []) ⟨hx, hb, hml, hown, ht⟩ (mt_A_expect l D a b k H.size u_1 (44 : Int32) ok_1) (cwV 1 ht (zgV zw_404 zw_406 zs_10 zw_3 zw_407) rfl rfl rfl kd_A_expect ⟨Nat.le_of_ble_eq_true rfl, Nat.le_of_ble_eq_true rfl⟩) ⟨zw_blind zw_tt, va_recv (hK.sub (tys' := [(k, .char)]) [0] rfl) (hP.sub (ws' := wA a b k u_1) [0, 1] rfl) (ci := 0) (q0 := 0) rfl rfl, zw_go (hP.sub (ws' := wA a b k u_1) [0, 1] rfl) (hD.sub (ws' := wA a b k u_1) [0, 1] (by decide) rfl) (hK.sub (tys' := [(k, .char)]) [0] rfl) (fun _ _ _ => trivial)⟩ rfl rfl hl.1 rfl (lv_room (Nat.le_of_ble_eq_true rfl)) d_A_distanceAndAnnul_32 ⟨Nat.le_of_ble_eq_true rfl, Nat.le_of_ble_eq_true rfl⟩) hP hD hS hA [0, 1] [] [0, 1] rfl rfl (by decide) (by decide) (by decide) (fun _ => rfl) (fun u_5 H locs hw hP hD hS => ?_)
    have eu_5 := hw
    have ok_5 : okA u_5 := by rw [eu_5]; exact (ok_expect ok_1)
    refine lv_aload_n hx hb d_A_distanceAndAnnul_35 rfl (lv_at hl 1 rfl) ?_
    refine lv_bipush (v := (97 : Int32)) hx hb d_A_distanceAndAnnul_36 (by decide) ?_
    refine zc_v (w2 := fun u9 => wA a b k u9) (va_runV (As := [.int (97 : Int32)]) (rest := []) ⟨hx, hb, hml, hown, ht⟩ (mt_A_expect l D a b k H.size u_5 (97 : Int32) ok_5) (cwV 1 ht (zgV zw_404 zw_406 zs_10 zw_3 zw_407) rfl rfl rfl kd_A_expect ⟨Nat.le_of_ble_eq_true rfl, Nat.le_of_ble_eq_true rfl⟩) ⟨zw_blind zw_tt, va_recv (hK.sub (tys' := [(k, .char)]) [0] rfl) (hP.sub (ws' := wA a b k u_5) [0, 1] rfl) (ci := 0) (q0 := 0) rfl rfl, zw_go (hP.sub (ws' := wA a b k u_5) [0, 1] rfl) (hD.sub (ws' := wA a b k u_5) [0, 1] (by decide) rfl) (hK.sub (tys' := [(k, .char)]) [0] rfl) (fun _ _ _ => trivial)⟩ rfl rfl hl.1 rfl (lv_room (Nat.le_of_ble_eq_true rfl)) d_A_distanceAndAnnul_38 ⟨Nat.le_of_ble_eq_true rfl, Nat.le_of_ble_eq_true rfl⟩) hP hD hS hA [0, 1] [] [0, 1] rfl rfl (by decide) (by decide) (by decide) (fun _ => rfl) (fun u_6 H locs hw hP hD hS => ?_)
    have eu_6 := hw
    have ok_6 : okA u_6 := by rw [eu_6]; exact (ok_expect ok_5)
    refine lv_iload_n hx hb d_A_distanceAndAnnul_41 rfl (lv_at hl 0 rfl) ?_
    refine lv_ldc (v := (536870912 : Int32)) hx hb hown (ht _ zw_449) d_A_distanceAndAnnul_42 ?_
    refine lv_ior hx hb d_A_distanceAndAnnul_44 ?_
    exact zl_i (u := u_6) hx hb hr hlocks hS hP hD (⟨by simp only [f_distanceAndAnnul, ← er_1, ← eu_1, ← eu_5, ← eu_6, if_neg c_3, if_neg c_4], by simp only [f_distanceAndAnnul, ← er_1, ← eu_1, ← eu_5, ← eu_6, if_neg c_3, if_neg c_4]⟩) d_A_distanceAndAnnul_45
  refine lv_iload_n hx hb d_A_distanceAndAnnul_27 rfl (lv_at hl 0 rfl) ?_
  exact zl_i (u := u_1) hx hb hr hlocks hS hP hD (⟨by simp only [f_distanceAndAnnul, ← er_1, ← eu_1, if_neg c_3, if_pos c_4], by simp only [f_distanceAndAnnul, ← er_1, ← eu_1, if_neg c_3, if_pos c_4]⟩) d_A_distanceAndAnnul_28
theorem ok_distanceAndAnnul {st : SA} (h : okA st) : okA (f_distanceAndAnnul st).2 := by
  have h1 := ok_number (a := -2097152) (b := 2097151) h
  have h2 := ok_expect (p := 97) (ok_expect (p := 44) h1)
  unfold f_distanceAndAnnul
  dsimp only
  repeat' first | with_reducible exact h1 | with_reducible exact h2 | with_reducible refine okA_ite2 ?_ ?_
