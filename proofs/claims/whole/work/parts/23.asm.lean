theorem d_A_registerNumber_0 : decode c_A_registerNumber 0 = .ok (.aload_n 0, 1) := by decide +kernel
theorem d_A_registerNumber_1 : decode c_A_registerNumber 1 = .ok (.getfield 26, 3) := by decide +kernel
theorem d_A_registerNumber_4 : decode c_A_registerNumber 4 = .ok (.istore_n 1, 1) := by decide +kernel
theorem d_A_registerNumber_5 : decode c_A_registerNumber 5 = .ok (.aload_n 0, 1) := by decide +kernel
theorem d_A_registerNumber_6 : decode c_A_registerNumber 6 = .ok (.bipush 37, 2) := by decide +kernel
theorem d_A_registerNumber_8 : decode c_A_registerNumber 8 = .ok (.invokevirtual 102, 3) := by decide +kernel
theorem d_A_registerNumber_11 : decode c_A_registerNumber 11 = .ok (.aload_n 0, 1) := by decide +kernel
theorem d_A_registerNumber_12 : decode c_A_registerNumber 12 = .ok (.iconst 2, 1) := by decide +kernel
theorem d_A_registerNumber_13 : decode c_A_registerNumber 13 = .ok (.invokevirtual 131, 3) := by decide +kernel
theorem d_A_registerNumber_16 : decode c_A_registerNumber 16 = .ok (.istore_n 2, 1) := by decide +kernel
theorem d_A_registerNumber_17 : decode c_A_registerNumber 17 = .ok (.aload_n 0, 1) := by decide +kernel
theorem d_A_registerNumber_18 : decode c_A_registerNumber 18 = .ok (.iload_n 2, 1) := by decide +kernel
theorem d_A_registerNumber_19 : decode c_A_registerNumber 19 = .ok (.iconst 0, 1) := by decide +kernel
theorem d_A_registerNumber_20 : decode c_A_registerNumber 20 = .ok (.bipush 31, 2) := by decide +kernel
theorem d_A_registerNumber_22 : decode c_A_registerNumber 22 = .ok (.iload_n 1, 1) := by decide +kernel
theorem d_A_registerNumber_23 : decode c_A_registerNumber 23 = .ok (.invokevirtual 134, 3) := by decide +kernel
theorem d_A_registerNumber_26 : decode c_A_registerNumber 26 = .ok (.iload_n 2, 1) := by decide +kernel
theorem d_A_registerNumber_27 : decode c_A_registerNumber 27 = .ok (.ireturn, 1) := by decide +kernel
theorem kd_A_registerNumber : (y_A_registerNumber).cls = "WindowMachine$Assembler" ∧ (y_A_registerNumber).cls ≠ "java/lang/invoke/MethodHandle" ∧ (y_A_registerNumber).cls ≠ "java/lang/invoke/VarHandle" ∧ (parseMethodDescriptor (y_A_registerNumber).desc).map (fun d => d.parameters.length) = some 0 := by decide +kernel
def f_registerNumber (st : SA) : Int32 × SA := (let u_1 := f_expect st (37 : Int32); (let r_2 := (f_digits u_1 (2 : Int32)).1; (let u_2 := (f_digits u_1 (2 : Int32)).2; (let u_3 := f_checkRange u_2 r_2 (0 : Int32) (31 : Int32) (st.1 1); (r_2, u_3)))))
set_option maxHeartbeats 4000000 in
set_option maxRecDepth 100000 in
theorem mt_A_registerNumber (l : Launch) (D : va_G) (a b : Nat) (k : ClassId) (sz : Nat) (st : SA) (hA9 : okA st) : Met l y_A_registerNumber w_A_registerNumber ({ frames := 2, cells := 0, slots := 0, locals := 44 }) (va_Pc [.ref a] (zw_pre D vwCl [(k, .char)] sz (wA a b k st) (fun _ => True))) (va_Qi (fun r (u : SA) => r = (f_registerNumber st).1 ∧ u = (f_registerNumber st).2) (fun u t => zw_at D vwCl (va_A (wA a b k st) sz) ((fun (u : SA) => wA a b k u) u) t) (va_A (wA a b k st) sz)) 0 0 (va_A (wA a b k st) sz) := by
  refine zm (Qf := fun A => va_Qi (fun r (u : SA) => r = (f_registerNumber st).1 ∧ u = (f_registerNumber st).2) (fun u t => zw_at D vwCl A ((fun (u : SA) => wA a b k u) u) t) A) (Zf := fun _ _ => True) (cc := c_A_registerNumber) (nL := 3) (ret := (some .int)) (by decide) rfl (Nat.le_of_ble_eq_true rfl) ?_
  intro p e s m below meth c9 A H locs ls hx hb hml hown hts hr hlocks hA hK hP hD hS hZ hl
  have hl : lv_has ls 3 [(0, .ref a)] := hl
  have ht : ∀ w9 ∈ zT, w9.before _ s = true := fun w9 h9 => hts w9 (List.mem_cons_of_mem _ h9)
  refine lv_aload_n hx hb d_A_registerNumber_0 rfl (lv_at hl 0 rfl) ?_
  refine va_get (D := D) (ci := 0) (v := .int (st.1 1)) (C := "WindowMachine$Assembler") (T := T_A) (N := 5) hx hb ht zi_A hown hK hP 0 rfl rfl 2 (by decide) (ht _ zw_47) (fun _ h9 => h9) rfl d_A_registerNumber_1 ?_
  refine lv_istore_n (lv' := [(1, .int (st.1 1)), (0, .ref a)]) hx hb d_A_registerNumber_4 rfl hl (by decide) rfl (fun ls hl => ?_)
  refine lv_aload_n hx hb d_A_registerNumber_5 rfl (lv_at hl 1 rfl) ?_
  refine lv_bipush (v := (37 : Int32)) hx hb d_A_registerNumber_6 (by decide) ?_
  refine zc_v (w2 := fun u9 => wA a b k u9) (va_runV (As := [.int (37 : Int32)]) (rest := []) ⟨hx, hb, hml, hown, ht⟩ (mt_A_expect l D a b k H.size st (37 : Int32) hA9) (cwV 1 ht (zgV zw_404 zw_406 zs_10 zw_3 zw_407) rfl rfl rfl kd_A_expect ⟨Nat.le_of_ble_eq_true rfl, Nat.le_of_ble_eq_true rfl⟩) ⟨zw_blind zw_tt, va_recv (hK.sub (tys' := [(k, .char)]) [0] rfl) (hP.sub (ws' := wA a b k st) [0, 1] rfl) (ci := 0) (q0 := 0) rfl rfl, zw_go (hP.sub (ws' := wA a b k st) [0, 1] rfl) (hD.sub (ws' := wA a b k st) [0, 1] (by decide) rfl) (hK.sub (tys' := [(k, .char)]) [0] rfl) (fun _ _ _ => trivial)⟩ rfl rfl hl.1 rfl (lv_room (Nat.le_of_ble_eq_true rfl)) d_A_registerNumber_8 ⟨Nat.le_of_ble_eq_true rfl, Nat.le_of_ble_eq_true rfl⟩) hP hD hS hA [0, 1] [] [0, 1] rfl rfl (by decide) (by decide) (by decide) (fun _ => rfl) (fun u_1 H locs hw hP hD hS => ?_)
  have eu_1 := hw
  have ok_1 : okA u_1 := by rw [eu_1]; exact (ok_expect hA9)
  refine lv_aload_n hx hb d_A_registerNumber_11 rfl (lv_at hl 1 rfl) ?_
  refine lv_iconst (v := (2 : Int32)) hx hb d_A_registerNumber_12 (by decide) ?_
  refine zc_i (w2 := fun u9 => wA a b k u9) (va_runV (As := [.int (2 : Int32)]) (rest := []) ⟨hx, hb, hml, hown, ht⟩ (mt_A_digits l D a b k H.size u_1 (2 : Int32) ok_1) (cwV 1 ht (zgV zw_420 zw_422 zs_14 zw_3 zw_423) rfl rfl rfl kd_A_digits ⟨Nat.le_of_ble_eq_true rfl, Nat.le_of_ble_eq_true rfl⟩) ⟨zw_blind zw_tt, va_recv (hK.sub (tys' := [(k, .char)]) [0] rfl) (hP.sub (ws' := wA a b k u_1) [0, 1] rfl) (ci := 0) (q0 := 0) rfl rfl, zw_go (hP.sub (ws' := wA a b k u_1) [0, 1] rfl) (hD.sub (ws' := wA a b k u_1) [0, 1] (by decide) rfl) (hK.sub (tys' := [(k, .char)]) [0] rfl) (fun _ _ _ => trivial)⟩ rfl rfl hl.1 rfl (lv_room (Nat.le_of_ble_eq_true rfl)) d_A_registerNumber_13 ⟨Nat.le_of_ble_eq_true rfl, Nat.le_of_ble_eq_true rfl⟩) hP hD hS hA [0, 1] [] [0, 1] rfl rfl (by decide) (by decide) (by decide) (fun _ => rfl) (fun r_2 u_2 H locs hw hP hD hS => ?_)
  obtain ⟨er_2, eu_2⟩ := hw
  have ok_2 : okA u_2 := by rw [eu_2]; exact (ok_digits ok_1)
  refine lv_istore_n (lv' := [(2, .int r_2), (1, .int (st.1 1)), (0, .ref a)]) hx hb d_A_registerNumber_16 rfl hl (by decide) rfl (fun ls hl => ?_)
  refine lv_aload_n hx hb d_A_registerNumber_17 rfl (lv_at hl 2 rfl) ?_
  refine lv_iload_n hx hb d_A_registerNumber_18 rfl (lv_at hl 0 rfl) ?_
  refine lv_iconst (v := (0 : Int32)) hx hb d_A_registerNumber_19 (by decide) ?_
  refine lv_bipush (v := (31 : Int32)) hx hb d_A_registerNumber_20 (by decide) ?_
  refine lv_iload_n hx hb d_A_registerNumber_22 rfl (lv_at hl 1 rfl) ?_
  refine zc_v (w2 := fun u9 => wA a b k u9) (va_runV (As := [.int r_2, .int (0 : Int32), .int (31 : Int32), .int (st.1 1)]) (rest := []) ⟨hx, hb, hml, hown, ht⟩ (mt_A_checkRange l D a b k H.size u_2 r_2 (0 : Int32) (31 : Int32) (st.1 1) ok_2) (cwV 4 ht (zgV zw_424 zw_426 zs_15 zw_3 zw_427) rfl rfl rfl kd_A_checkRange ⟨Nat.le_of_ble_eq_true rfl, Nat.le_of_ble_eq_true rfl⟩) ⟨zw_blind zw_tt, va_recv (hK.sub (tys' := [(k, .char)]) [0] rfl) (hP.sub (ws' := wA a b k u_2) [0, 1] rfl) (ci := 0) (q0 := 0) rfl rfl, zw_go (hP.sub (ws' := wA a b k u_2) [0, 1] rfl) (hD.sub (ws' := wA a b k u_2) [0, 1] (by decide) rfl) (hK.sub (tys' := [(k, .char)]) [0] rfl) (fun _ _ _ => trivial)⟩ rfl rfl hl.1 rfl (lv_room (Nat.le_of_ble_eq_true rfl)) d_A_registerNumber_23 ⟨Nat.le_of_ble_eq_true rfl, Nat.le_of_ble_eq_true rfl⟩) hP hD hS hA [0, 1] [] [0, 1] rfl rfl (by decide) (by decide) (by decide) (fun _ => rfl) (fun u_3 H locs hw hP hD hS => ?_)
  have eu_3 := hw
  have ok_3 : okA u_3 := by rw [eu_3]; exact (ok_checkRange ok_2)
  refine lv_iload_n hx hb d_A_registerNumber_26 rfl (lv_at hl 0 rfl) ?_
  exact zl_i (u := u_3) hx hb hr hlocks hS hP hD (⟨by simp only [f_registerNumber, ← eu_1, ← er_2, ← eu_2, ← eu_3], by simp only [f_registerNumber, ← eu_1, ← er_2, ← eu_2, ← eu_3]⟩) d_A_registerNumber_27
theorem ok_registerNumber {st : SA} (h : okA st) : okA (f_registerNumber st).2 := by
  unfold f_registerNumber
  dsimp only
  exact ok_checkRange (ok_digits (ok_expect h))
