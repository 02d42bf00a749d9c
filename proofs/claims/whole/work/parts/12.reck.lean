theorem dec_toInt {x : Int32} (h0 : -1000 ≤ x.toInt) (h1 : x.toInt ≤ 1000) : (x + (-1 : Int32)).toInt = x.toInt - 1 := by
  have e : (-1 : Int32).toInt = -1 := by decide
  rw [Int32.toInt_add, e]
  rw [Int.bmod_eq_of_le] <;> omega
theorem qw_back {n : Nat} {x : Int32} (h : x.toInt + 2 = ((n + 1 : Nat) : Int) ∧ -1 ≤ x.toInt ∧ x.toInt ≤ 31) (c : ¬ x < (0 : Int32)) : (x + (-1 : Int32)).toInt + 2 = (n : Int) ∧ -1 ≤ (x + (-1 : Int32)).toInt ∧ (x + (-1 : Int32)).toInt ≤ 31 := by
  have h0 : ¬ x.toInt < 0 := fun q => c (Int32.lt_iff_toInt_lt.mpr q)
  rw [dec_toInt (by omega) (by omega)]
  omega
theorem i64z {x : Int32} (h : x.toInt64 = 0) : x = 0 := by
  have h1 : x.toInt64.toInt = (0 : Int64).toInt := by rw [h]
  rw [Int32.toInt_toInt64] at h1
  exact Int32.toInt_inj.mp h1
theorem d_K_take_0 : decode c_K_take 0 = .ok (.aload_n 0, 1) := by decide +kernel
theorem d_K_take_1 : decode c_K_take 1 = .ok (.iload_n 1, 1) := by decide +kernel
theorem d_K_take_2 : decode c_K_take 2 = .ok (.putfield 42, 3) := by decide +kernel
theorem d_K_take_5 : decode c_K_take 5 = .ok (.aload_n 0, 1) := by decide +kernel
theorem d_K_take_6 : decode c_K_take 6 = .ok (.iconst 0, 1) := by decide +kernel
theorem d_K_take_7 : decode c_K_take 7 = .ok (.putfield 46, 3) := by decide +kernel
theorem d_K_take_10 : decode c_K_take 10 = .ok (.aload_n 0, 1) := by decide +kernel
theorem d_K_take_11 : decode c_K_take 11 = .ok (.iconst 0, 1) := by decide +kernel
theorem d_K_take_12 : decode c_K_take 12 = .ok (.putfield 49, 3) := by decide +kernel
theorem d_K_take_15 : decode c_K_take 15 = .ok (.return_, 1) := by decide +kernel
theorem kd_K_take : (y_K_take).cls = "WindowMachine$Reckoner" ∧ (y_K_take).cls ≠ "java/lang/invoke/MethodHandle" ∧ (y_K_take).cls ≠ "java/lang/invoke/VarHandle" ∧ (parseMethodDescriptor (y_K_take).desc).map (fun d => d.parameters.length) = some 1 := by decide +kernel
def f_take (st : Nat → Int32) (p0 : Int32) : Nat → Int32 := upd (upd (upd st 0 p0) 2 (0 : Int32)) 3 (0 : Int32)
set_option maxHeartbeats 4000000 in
set_option maxRecDepth 100000 in
theorem mt_K_take (l : Launch) (D : va_G) (a : Nat) (sz : Nat) (st : Nat → Int32) (p0 : Int32) : Met l y_K_take w_K_take ({ frames := 0, cells := 0, slots := 0, locals := 0 }) (va_Pc [.ref a, .int p0] (zw_pre D vwCl [] sz (wK a st) (fun _ => True))) (va_Qv (fun (u : Nat → Int32) => u = f_take st p0) (fun u t => zw_at D vwCl (va_A (wK a st) sz) ((fun (u : Nat → Int32) => wK a u) u) t) (va_A (wK a st) sz)) 0 0 (va_A (wK a st) sz) := by
  refine zm (Qf := fun A => va_Qv (fun (u : Nat → Int32) => u = f_take st p0) (fun u t => zw_at D vwCl A ((fun (u : Nat → Int32) => wK a u) u) t) A) (Zf := fun _ _ => True) (cc := c_K_take) (nL := 2) (ret := none) (by decide) rfl (Nat.le_of_ble_eq_true rfl) ?_
  intro p e s m below meth c9 A H locs ls hx hb hml hown hts hr hlocks hA hK hP hD hS hZ hl
  have hl : lv_has ls 2 [(0, .ref a), (1, .int p0)] := hl
  have ht : ∀ w9 ∈ zT, w9.before _ s = true := fun w9 h9 => hts w9 (List.mem_cons_of_mem _ h9)
  refine lv_aload_n hx hb d_K_take_0 rfl (lv_at hl 0 rfl) ?_
  refine lv_iload_n hx hb d_K_take_1 rfl (lv_at hl 1 rfl) ?_
  refine va_put (D := D) (ci := 3) (v := .int p0) (ty := .int) (C := "WindowMachine$Reckoner") (T := T_K) (N := 4) hx hb ht zi_K ty_K tyok_K nm_K hown hK hP hD hS 0 rfl rfl 0 (by decide) (ht _ zw_85) (fun _ h9 => h9) rfl (by decide +kernel) rfl rfl (Nat.le_of_ble_eq_true rfl) d_K_take_2 (fun H locs hP hD hS => ?_)
  have hP : va_P D vwCl (wK a (upd st 0 p0)) H := hP
  have hD : va_D A (wK a (upd st 0 p0)) := hD
  refine lv_aload_n hx hb d_K_take_5 rfl (lv_at hl 0 rfl) ?_
  refine lv_iconst (v := (0 : Int32)) hx hb d_K_take_6 (by decide) ?_
  refine va_put (D := D) (ci := 3) (v := .int (0 : Int32)) (ty := .int) (C := "WindowMachine$Reckoner") (T := T_K) (N := 4) hx hb ht zi_K ty_K tyok_K nm_K hown hK hP hD hS 0 rfl rfl 2 (by decide) (ht _ zw_89) (fun _ h9 => h9) rfl (by decide +kernel) rfl rfl (Nat.le_of_ble_eq_true rfl) d_K_take_7 (fun H locs hP hD hS => ?_)
  have hP : va_P D vwCl (wK a (upd (upd st 0 p0) 2 (0 : Int32))) H := hP
  have hD : va_D A (wK a (upd (upd st 0 p0) 2 (0 : Int32))) := hD
  refine lv_aload_n hx hb d_K_take_10 rfl (lv_at hl 0 rfl) ?_
  refine lv_iconst (v := (0 : Int32)) hx hb d_K_take_11 (by decide) ?_
  refine va_put (D := D) (ci := 3) (v := .int (0 : Int32)) (ty := .int) (C := "WindowMachine$Reckoner") (T := T_K) (N := 4) hx hb ht zi_K ty_K tyok_K nm_K hown hK hP hD hS 0 rfl rfl 3 (by decide) (ht _ zw_90) (fun _ h9 => h9) rfl (by decide +kernel) rfl rfl (Nat.le_of_ble_eq_true rfl) d_K_take_12 (fun H locs hP hD hS => ?_)
  have hP : va_P D vwCl (wK a (upd (upd (upd st 0 p0) 2 (0 : Int32)) 3 (0 : Int32))) H := hP
  have hD : va_D A (wK a (upd (upd (upd st 0 p0) 2 (0 : Int32)) 3 (0 : Int32))) := hD
  exact zl_v (u := upd (upd (upd st 0 p0) 2 (0 : Int32)) 3 (0 : Int32)) hx hb hr hlocks hS hP hD (by simp only [f_take]) d_K_take_15
theorem d_K_add_0 : decode c_K_add 0 = .ok (.aload_n 0, 1) := by decide +kernel
theorem d_K_add_1 : decode c_K_add 1 = .ok (.iload_n 1, 1) := by decide +kernel
theorem d_K_add_2 : decode c_K_add 2 = .ok (.iload_n 2, 1) := by decide +kernel
theorem d_K_add_3 : decode c_K_add 3 = .ok (.iadd, 1) := by decide +kernel
theorem d_K_add_4 : decode c_K_add 4 = .ok (.iload_n 3, 1) := by decide +kernel
theorem d_K_add_5 : decode c_K_add 5 = .ok (.iadd, 1) := by decide +kernel
theorem d_K_add_6 : decode c_K_add 6 = .ok (.invokevirtual 7, 3) := by decide +kernel
theorem d_K_add_9 : decode c_K_add 9 = .ok (.aload_n 0, 1) := by decide +kernel
theorem d_K_add_10 : decode c_K_add 10 = .ok (.iload_n 1, 1) := by decide +kernel
theorem d_K_add_11 : decode c_K_add 11 = .ok (.iload_n 2, 1) := by decide +kernel
theorem d_K_add_12 : decode c_K_add 12 = .ok (.ixor, 1) := by decide +kernel
theorem d_K_add_13 : decode c_K_add 13 = .ok (.iconst (-1), 1) := by decide +kernel
theorem d_K_add_14 : decode c_K_add 14 = .ok (.ixor, 1) := by decide +kernel
theorem d_K_add_15 : decode c_K_add 15 = .ok (.iload_n 1, 1) := by decide +kernel
theorem d_K_add_16 : decode c_K_add 16 = .ok (.aload_n 0, 1) := by decide +kernel
theorem d_K_add_17 : decode c_K_add 17 = .ok (.getfield 42, 3) := by decide +kernel
theorem d_K_add_20 : decode c_K_add 20 = .ok (.ixor, 1) := by decide +kernel
theorem d_K_add_21 : decode c_K_add 21 = .ok (.iand, 1) := by decide +kernel
theorem d_K_add_22 : decode c_K_add 22 = .ok (.bipush 31, 2) := by decide +kernel
theorem d_K_add_24 : decode c_K_add 24 = .ok (.iushr, 1) := by decide +kernel
theorem d_K_add_25 : decode c_K_add 25 = .ok (.putfield 46, 3) := by decide +kernel
theorem d_K_add_28 : decode c_K_add 28 = .ok (.aload_n 0, 1) := by decide +kernel
theorem d_K_add_29 : decode c_K_add 29 = .ok (.iload_n 1, 1) := by decide +kernel
theorem d_K_add_30 : decode c_K_add 30 = .ok (.i2l, 1) := by decide +kernel
theorem d_K_add_31 : decode c_K_add 31 = .ok (.ldc2_w 20, 3) := by decide +kernel
theorem d_K_add_34 : decode c_K_add 34 = .ok (.land, 1) := by decide +kernel
theorem d_K_add_35 : decode c_K_add 35 = .ok (.iload_n 2, 1) := by decide +kernel
theorem d_K_add_36 : decode c_K_add 36 = .ok (.i2l, 1) := by decide +kernel
theorem d_K_add_37 : decode c_K_add 37 = .ok (.ldc2_w 20, 3) := by decide +kernel
theorem d_K_add_40 : decode c_K_add 40 = .ok (.land, 1) := by decide +kernel
theorem d_K_add_41 : decode c_K_add 41 = .ok (.ladd, 1) := by decide +kernel
theorem d_K_add_42 : decode c_K_add 42 = .ok (.iload_n 3, 1) := by decide +kernel
theorem d_K_add_43 : decode c_K_add 43 = .ok (.i2l, 1) := by decide +kernel
theorem d_K_add_44 : decode c_K_add 44 = .ok (.ladd, 1) := by decide +kernel
theorem d_K_add_45 : decode c_K_add 45 = .ok (.bipush 32, 2) := by decide +kernel
theorem d_K_add_47 : decode c_K_add 47 = .ok (.lushr, 1) := by decide +kernel
theorem d_K_add_48 : decode c_K_add 48 = .ok (.l2i, 1) := by decide +kernel
theorem d_K_add_49 : decode c_K_add 49 = .ok (.putfield 49, 3) := by decide +kernel
theorem d_K_add_52 : decode c_K_add 52 = .ok (.return_, 1) := by decide +kernel
theorem kd_K_add : (y_K_add).cls = "WindowMachine$Reckoner" ∧ (y_K_add).cls ≠ "java/lang/invoke/MethodHandle" ∧ (y_K_add).cls ≠ "java/lang/invoke/VarHandle" ∧ (parseMethodDescriptor (y_K_add).desc).map (fun d => d.parameters.length) = some 3 := by decide +kernel
def f_kadd (st : Nat → Int32) (p0 : Int32) (p1 : Int32) (p2 : Int32) : Nat → Int32 := (let u_1 := f_take st ((p0 + p1) + p2); upd (upd u_1 2 (zushr (((p0 ^^^ p1) ^^^ (-1 : Int32)) &&& (p0 ^^^ (u_1 0))) (31 : Int32))) 3 ((zlushr (((p0.toInt64 &&& (4294967295 : Int64)) + (p1.toInt64 &&& (4294967295 : Int64))) + p2.toInt64) (32 : Int32)).toInt32))
set_option maxHeartbeats 4000000 in
set_option maxRecDepth 100000 in
theorem mt_K_add (l : Launch) (D : va_G) (a : Nat) (sz : Nat) (st : Nat → Int32) (p0 : Int32) (p1 : Int32) (p2 : Int32) : Met l y_K_add w_K_add ({ frames := 1, cells := 0, slots := 0, locals := 21 }) (va_Pc [.ref a, .int p0, .int p1, .int p2] (zw_pre D vwCl [] sz (wK a st) (fun _ => True))) (va_Qv (fun (u : Nat → Int32) => u = f_kadd st p0 p1 p2) (fun u t => zw_at D vwCl (va_A (wK a st) sz) ((fun (u : Nat → Int32) => wK a u) u) t) (va_A (wK a st) sz)) 0 0 (va_A (wK a st) sz) := by
  refine zm (Qf := fun A => va_Qv (fun (u : Nat → Int32) => u = f_kadd st p0 p1 p2) (fun u t => zw_at D vwCl A ((fun (u : Nat → Int32) => wK a u) u) t) A) (Zf := fun _ _ => True) (cc := c_K_add) (nL := 4) (ret := none) (by decide) rfl (Nat.le_of_ble_eq_true rfl) ?_
  intro p e s m below meth c9 A H locs ls hx hb hml hown hts hr hlocks hA hK hP hD hS hZ hl
  have hl : lv_has ls 4 [(0, .ref a), (1, .int p0), (2, .int p1), (3, .int p2)] := hl
  have ht : ∀ w9 ∈ zT, w9.before _ s = true := fun w9 h9 => hts w9 (List.mem_cons_of_mem _ h9)
  refine lv_aload_n hx hb d_K_add_0 rfl (lv_at hl 0 rfl) ?_
  refine lv_iload_n hx hb d_K_add_1 rfl (lv_at hl 1 rfl) ?_
  refine lv_iload_n hx hb d_K_add_2 rfl (lv_at hl 2 rfl) ?_
  refine lv_iadd hx hb d_K_add_3 ?_
  refine lv_iload_n hx hb d_K_add_4 rfl (lv_at hl 3 rfl) ?_
  refine lv_iadd hx hb d_K_add_5 ?_
  refine zc_v (w2 := fun u9 => wK a u9) (va_runV (As := [.int ((p0 + p1) + p2)]) (rest := []) ⟨hx, hb, hml, hown, ht⟩ (mt_K_take l D a H.size st ((p0 + p1) + p2)) (cwV 1 ht (zgV zw_590 zw_592 zs_31 zw_6 zw_593) rfl rfl rfl kd_K_take ⟨Nat.le_of_ble_eq_true rfl, Nat.le_of_ble_eq_true rfl⟩) ⟨zw_blind zw_tt, va_recv (hK.sub (tys' := []) [] rfl) (hP.sub (ws' := wK a st) [0] rfl) (ci := 3) (q0 := 0) rfl rfl, zw_go (hP.sub (ws' := wK a st) [0] rfl) (hD.sub (ws' := wK a st) [0] (by decide) rfl) (hK.sub (tys' := []) [] rfl) (fun _ _ _ => trivial)⟩ rfl rfl hl.1 rfl (lv_room (Nat.le_of_ble_eq_true rfl)) d_K_add_6 ⟨Nat.le_of_ble_eq_true rfl, Nat.le_of_ble_eq_true rfl⟩) hP hD hS hA [0] [] [0] rfl rfl (by decide) (by decide) (by decide) (fun _ => rfl) (fun u_1 H locs hw hP hD hS => ?_)
  have eu_1 := hw
  refine lv_aload_n hx hb d_K_add_9 rfl (lv_at hl 0 rfl) ?_
  refine lv_iload_n hx hb d_K_add_10 rfl (lv_at hl 1 rfl) ?_
  refine lv_iload_n hx hb d_K_add_11 rfl (lv_at hl 2 rfl) ?_
  refine lv_ixor hx hb d_K_add_12 ?_
  refine lv_iconst (v := (-1 : Int32)) hx hb d_K_add_13 (by decide) ?_
  refine lv_ixor hx hb d_K_add_14 ?_
  refine lv_iload_n hx hb d_K_add_15 rfl (lv_at hl 1 rfl) ?_
  refine lv_aload_n hx hb d_K_add_16 rfl (lv_at hl 0 rfl) ?_
  refine va_get (D := D) (ci := 3) (v := .int (u_1 0)) (C := "WindowMachine$Reckoner") (T := T_K) (N := 4) hx hb ht zi_K hown hK hP 0 rfl rfl 0 (by decide) (ht _ zw_85) (fun _ h9 => h9) rfl d_K_add_17 ?_
  refine lv_ixor hx hb d_K_add_20 ?_
  refine lv_iand hx hb d_K_add_21 ?_
  refine lv_bipush (v := (31 : Int32)) hx hb d_K_add_22 (by decide) ?_
  refine lv_iushr (v := zushr (((p0 ^^^ p1) ^^^ (-1 : Int32)) &&& (p0 ^^^ (u_1 0))) (31 : Int32)) hx hb d_K_add_24 rfl ?_
  refine va_put (D := D) (ci := 3) (v := .int (zushr (((p0 ^^^ p1) ^^^ (-1 : Int32)) &&& (p0 ^^^ (u_1 0))) (31 : Int32))) (ty := .int) (C := "WindowMachine$Reckoner") (T := T_K) (N := 4) hx hb ht zi_K ty_K tyok_K nm_K hown hK hP hD hS 0 rfl rfl 2 (by decide) (ht _ zw_89) (fun _ h9 => h9) rfl (by decide +kernel) rfl rfl (Nat.le_of_ble_eq_true rfl) d_K_add_25 (fun H locs hP hD hS => ?_)
  have hP : va_P D vwCl (wK a (upd u_1 2 (zushr (((p0 ^^^ p1) ^^^ (-1 : Int32)) &&& (p0 ^^^ (u_1 0))) (31 : Int32)))) H := hP
  have hD : va_D A (wK a (upd u_1 2 (zushr (((p0 ^^^ p1) ^^^ (-1 : Int32)) &&& (p0 ^^^ (u_1 0))) (31 : Int32)))) := hD
  refine lv_aload_n hx hb d_K_add_28 rfl (lv_at hl 0 rfl) ?_
  refine lv_iload_n hx hb d_K_add_29 rfl (lv_at hl 1 rfl) ?_
  refine lv_i2l (v := p0.toInt64) hx hb d_K_add_30 rfl ?_
  refine lv_ldc2 (v := (4294967295 : Int64)) hx hb hown (ht _ zw_598) d_K_add_31 ?_
  refine lv_land hx hb d_K_add_34 ?_
  refine lv_iload_n hx hb d_K_add_35 rfl (lv_at hl 2 rfl) ?_
  refine lv_i2l (v := p1.toInt64) hx hb d_K_add_36 rfl ?_
  refine lv_ldc2 (v := (4294967295 : Int64)) hx hb hown (ht _ zw_598) d_K_add_37 ?_
  refine lv_land hx hb d_K_add_40 ?_
  refine lv_ladd hx hb d_K_add_41 ?_
  refine lv_iload_n hx hb d_K_add_42 rfl (lv_at hl 3 rfl) ?_
  refine lv_i2l (v := p2.toInt64) hx hb d_K_add_43 rfl ?_
  refine lv_ladd hx hb d_K_add_44 ?_
  refine lv_bipush (v := (32 : Int32)) hx hb d_K_add_45 (by decide) ?_
  refine lv_lushr (v := zlushr (((p0.toInt64 &&& (4294967295 : Int64)) + (p1.toInt64 &&& (4294967295 : Int64))) + p2.toInt64) (32 : Int32)) hx hb d_K_add_47 rfl ?_
  refine lv_l2i (v := (zlushr (((p0.toInt64 &&& (4294967295 : Int64)) + (p1.toInt64 &&& (4294967295 : Int64))) + p2.toInt64) (32 : Int32)).toInt32) hx hb d_K_add_48 rfl ?_
  refine va_put (D := D) (ci := 3) (v := .int ((zlushr (((p0.toInt64 &&& (4294967295 : Int64)) + (p1.toInt64 &&& (4294967295 : Int64))) + p2.toInt64) (32 : Int32)).toInt32)) (ty := .int) (C := "WindowMachine$Reckoner") (T := T_K) (N := 4) hx hb ht zi_K ty_K tyok_K nm_K hown hK hP hD hS 0 rfl rfl 3 (by decide) (ht _ zw_90) (fun _ h9 => h9) rfl (by decide +kernel) rfl rfl (Nat.le_of_ble_eq_true rfl) d_K_add_49 (fun H locs hP hD hS => ?_)
  have hP : va_P D vwCl (wK a (upd (upd u_1 2 (zushr (((p0 ^^^ p1) ^^^ (-1 : Int32)) &&& (p0 ^^^ (u_1 0))) (31 : Int32))) 3 ((zlushr (((p0.toInt64 &&& (4294967295 : Int64)) + (p1.toInt64 &&& (4294967295 : Int64))) + p2.toInt64) (32 : Int32)).toInt32))) H := hP
  have hD : va_D A (wK a (upd (upd u_1 2 (zushr (((p0 ^^^ p1) ^^^ (-1 : Int32)) &&& (p0 ^^^ (u_1 0))) (31 : Int32))) 3 ((zlushr (((p0.toInt64 &&& (4294967295 : Int64)) + (p1.toInt64 &&& (4294967295 : Int64))) + p2.toInt64) (32 : Int32)).toInt32))) := hD
  exact zl_v (u := upd (upd u_1 2 (zushr (((p0 ^^^ p1) ^^^ (-1 : Int32)) &&& (p0 ^^^ (u_1 0))) (31 : Int32))) 3 ((zlushr (((p0.toInt64 &&& (4294967295 : Int64)) + (p1.toInt64 &&& (4294967295 : Int64))) + p2.toInt64) (32 : Int32)).toInt32)) hx hb hr hlocks hS hP hD (by subst eu_1; simp only [f_kadd]) d_K_add_52
theorem d_K_subtract_0 : decode c_K_subtract 0 = .ok (.aload_n 0, 1) := by decide +kernel
theorem d_K_subtract_1 : decode c_K_subtract 1 = .ok (.iload_n 1, 1) := by decide +kernel
theorem d_K_subtract_2 : decode c_K_subtract 2 = .ok (.iload_n 2, 1) := by decide +kernel
theorem d_K_subtract_3 : decode c_K_subtract 3 = .ok (.isub, 1) := by decide +kernel
theorem d_K_subtract_4 : decode c_K_subtract 4 = .ok (.iload_n 3, 1) := by decide +kernel
theorem d_K_subtract_5 : decode c_K_subtract 5 = .ok (.isub, 1) := by decide +kernel
theorem d_K_subtract_6 : decode c_K_subtract 6 = .ok (.invokevirtual 7, 3) := by decide +kernel
theorem d_K_subtract_9 : decode c_K_subtract 9 = .ok (.aload_n 0, 1) := by decide +kernel
theorem d_K_subtract_10 : decode c_K_subtract 10 = .ok (.iload_n 1, 1) := by decide +kernel
theorem d_K_subtract_11 : decode c_K_subtract 11 = .ok (.iload_n 2, 1) := by decide +kernel
theorem d_K_subtract_12 : decode c_K_subtract 12 = .ok (.ixor, 1) := by decide +kernel
theorem d_K_subtract_13 : decode c_K_subtract 13 = .ok (.iload_n 1, 1) := by decide +kernel
theorem d_K_subtract_14 : decode c_K_subtract 14 = .ok (.aload_n 0, 1) := by decide +kernel
theorem d_K_subtract_15 : decode c_K_subtract 15 = .ok (.getfield 42, 3) := by decide +kernel
theorem d_K_subtract_18 : decode c_K_subtract 18 = .ok (.ixor, 1) := by decide +kernel
theorem d_K_subtract_19 : decode c_K_subtract 19 = .ok (.iand, 1) := by decide +kernel
theorem d_K_subtract_20 : decode c_K_subtract 20 = .ok (.bipush 31, 2) := by decide +kernel
theorem d_K_subtract_22 : decode c_K_subtract 22 = .ok (.iushr, 1) := by decide +kernel
theorem d_K_subtract_23 : decode c_K_subtract 23 = .ok (.putfield 46, 3) := by decide +kernel
theorem d_K_subtract_26 : decode c_K_subtract 26 = .ok (.aload_n 0, 1) := by decide +kernel
theorem d_K_subtract_27 : decode c_K_subtract 27 = .ok (.iload_n 1, 1) := by decide +kernel
theorem d_K_subtract_28 : decode c_K_subtract 28 = .ok (.i2l, 1) := by decide +kernel
theorem d_K_subtract_29 : decode c_K_subtract 29 = .ok (.ldc2_w 20, 3) := by decide +kernel
theorem d_K_subtract_32 : decode c_K_subtract 32 = .ok (.land, 1) := by decide +kernel
theorem d_K_subtract_33 : decode c_K_subtract 33 = .ok (.iload_n 2, 1) := by decide +kernel
theorem d_K_subtract_34 : decode c_K_subtract 34 = .ok (.i2l, 1) := by decide +kernel
theorem d_K_subtract_35 : decode c_K_subtract 35 = .ok (.ldc2_w 20, 3) := by decide +kernel
theorem d_K_subtract_38 : decode c_K_subtract 38 = .ok (.land, 1) := by decide +kernel
theorem d_K_subtract_39 : decode c_K_subtract 39 = .ok (.iload_n 3, 1) := by decide +kernel
theorem d_K_subtract_40 : decode c_K_subtract 40 = .ok (.i2l, 1) := by decide +kernel
theorem d_K_subtract_41 : decode c_K_subtract 41 = .ok (.ladd, 1) := by decide +kernel
theorem d_K_subtract_42 : decode c_K_subtract 42 = .ok (.lcmp, 1) := by decide +kernel
theorem d_K_subtract_43 : decode c_K_subtract 43 = .ok (.ifCond .ge 7, 3) := by decide +kernel
theorem d_K_subtract_46 : decode c_K_subtract 46 = .ok (.iconst 1, 1) := by decide +kernel
theorem d_K_subtract_47 : decode c_K_subtract 47 = .ok (.goto 4, 3) := by decide +kernel
theorem d_K_subtract_50 : decode c_K_subtract 50 = .ok (.iconst 0, 1) := by decide +kernel
theorem d_K_subtract_51 : decode c_K_subtract 51 = .ok (.putfield 49, 3) := by decide +kernel
theorem d_K_subtract_54 : decode c_K_subtract 54 = .ok (.return_, 1) := by decide +kernel
theorem kd_K_subtract : (y_K_subtract).cls = "WindowMachine$Reckoner" ∧ (y_K_subtract).cls ≠ "java/lang/invoke/MethodHandle" ∧ (y_K_subtract).cls ≠ "java/lang/invoke/VarHandle" ∧ (parseMethodDescriptor (y_K_subtract).desc).map (fun d => d.parameters.length) = some 3 := by decide +kernel
def f_subtract (st : Nat → Int32) (p0 : Int32) (p1 : Int32) (p2 : Int32) : Nat → Int32 := (let u_1 := f_take st ((p0 - p1) - p2); (let x_2 := (if (0 : Int32) ≤ (lg_cmp (p0.toInt64 &&& (4294967295 : Int64)) ((p1.toInt64 &&& (4294967295 : Int64)) + p2.toInt64)) then (0 : Int32) else (1 : Int32)); upd (upd u_1 2 (zushr ((p0 ^^^ p1) &&& (p0 ^^^ (u_1 0))) (31 : Int32))) 3 x_2))
set_option maxHeartbeats 4000000 in
set_option maxRecDepth 100000 in
theorem mt_K_subtract (l : Launch) (D : va_G) (a : Nat) (sz : Nat) (st : Nat → Int32) (p0 : Int32) (p1 : Int32) (p2 : Int32) : Met l y_K_subtract w_K_subtract ({ frames := 1, cells := 0, slots := 0, locals := 21 }) (va_Pc [.ref a, .int p0, .int p1, .int p2] (zw_pre D vwCl [] sz (wK a st) (fun _ => True))) (va_Qv (fun (u : Nat → Int32) => u = f_subtract st p0 p1 p2) (fun u t => zw_at D vwCl (va_A (wK a st) sz) ((fun (u : Nat → Int32) => wK a u) u) t) (va_A (wK a st) sz)) 0 0 (va_A (wK a st) sz) := by
  refine zm (Qf := fun A => va_Qv (fun (u : Nat → Int32) => u = f_subtract st p0 p1 p2) (fun u t => zw_at D vwCl A ((fun (u : Nat → Int32) => wK a u) u) t) A) (Zf := fun _ _ => True) (cc := c_K_subtract) (nL := 4) (ret := none) (by decide) rfl (Nat.le_of_ble_eq_true rfl) ?_
  intro p e s m below meth c9 A H locs ls hx hb hml hown hts hr hlocks hA hK hP hD hS hZ hl
  have hl : lv_has ls 4 [(0, .ref a), (1, .int p0), (2, .int p1), (3, .int p2)] := hl
  have ht : ∀ w9 ∈ zT, w9.before _ s = true := fun w9 h9 => hts w9 (List.mem_cons_of_mem _ h9)
  refine lv_aload_n hx hb d_K_subtract_0 rfl (lv_at hl 0 rfl) ?_
  refine lv_iload_n hx hb d_K_subtract_1 rfl (lv_at hl 1 rfl) ?_
  refine lv_iload_n hx hb d_K_subtract_2 rfl (lv_at hl 2 rfl) ?_
  refine lv_isub hx hb d_K_subtract_3 ?_
  refine lv_iload_n hx hb d_K_subtract_4 rfl (lv_at hl 3 rfl) ?_
  refine lv_isub hx hb d_K_subtract_5 ?_
  refine zc_v (w2 := fun u9 => wK a u9) (va_runV (As := [.int ((p0 - p1) - p2)]) (rest := []) ⟨hx, hb, hml, hown, ht⟩ (mt_K_take l D a H.size st ((p0 - p1) - p2)) (cwV 1 ht (zgV zw_590 zw_592 zs_31 zw_6 zw_593) rfl rfl rfl kd_K_take ⟨Nat.le_of_ble_eq_true rfl, Nat.le_of_ble_eq_true rfl⟩) ⟨zw_blind zw_tt, va_recv (hK.sub (tys' := []) [] rfl) (hP.sub (ws' := wK a st) [0] rfl) (ci := 3) (q0 := 0) rfl rfl, zw_go (hP.sub (ws' := wK a st) [0] rfl) (hD.sub (ws' := wK a st) [0] (by decide) rfl) (hK.sub (tys' := []) [] rfl) (fun _ _ _ => trivial)⟩ rfl rfl hl.1 rfl (lv_room (Nat.le_of_ble_eq_true rfl)) d_K_subtract_6 ⟨Nat.le_of_ble_eq_true rfl, Nat.le_of_ble_eq_true rfl⟩) hP hD hS hA [0] [] [0] rfl rfl (by decide) (by decide) (by decide) (fun _ => rfl) (fun u_1 H locs hw hP hD hS => ?_)
  have eu_1 := hw
  refine lv_aload_n hx hb d_K_subtract_9 rfl (lv_at hl 0 rfl) ?_
  refine lv_iload_n hx hb d_K_subtract_10 rfl (lv_at hl 1 rfl) ?_
  refine lv_iload_n hx hb d_K_subtract_11 rfl (lv_at hl 2 rfl) ?_
  refine lv_ixor hx hb d_K_subtract_12 ?_
  refine lv_iload_n hx hb d_K_subtract_13 rfl (lv_at hl 1 rfl) ?_
  refine lv_aload_n hx hb d_K_subtract_14 rfl (lv_at hl 0 rfl) ?_
  refine va_get (D := D) (ci := 3) (v := .int (u_1 0)) (C := "WindowMachine$Reckoner") (T := T_K) (N := 4) hx hb ht zi_K hown hK hP 0 rfl rfl 0 (by decide) (ht _ zw_85) (fun _ h9 => h9) rfl d_K_subtract_15 ?_
  refine lv_ixor hx hb d_K_subtract_18 ?_
  refine lv_iand hx hb d_K_subtract_19 ?_
  refine lv_bipush (v := (31 : Int32)) hx hb d_K_subtract_20 (by decide) ?_
  refine lv_iushr (v := zushr ((p0 ^^^ p1) &&& (p0 ^^^ (u_1 0))) (31 : Int32)) hx hb d_K_subtract_22 rfl ?_
  refine va_put (D := D) (ci := 3) (v := .int (zushr ((p0 ^^^ p1) &&& (p0 ^^^ (u_1 0))) (31 : Int32))) (ty := .int) (C := "WindowMachine$Reckoner") (T := T_K) (N := 4) hx hb ht zi_K ty_K tyok_K nm_K hown hK hP hD hS 0 rfl rfl 2 (by decide) (ht _ zw_89) (fun _ h9 => h9) rfl (by decide +kernel) rfl rfl (Nat.le_of_ble_eq_true rfl) d_K_subtract_23 (fun H locs hP hD hS => ?_)
  have hP : va_P D vwCl (wK a (upd u_1 2 (zushr ((p0 ^^^ p1) &&& (p0 ^^^ (u_1 0))) (31 : Int32)))) H := hP
  have hD : va_D A (wK a (upd u_1 2 (zushr ((p0 ^^^ p1) &&& (p0 ^^^ (u_1 0))) (31 : Int32)))) := hD
  refine lv_aload_n hx hb d_K_subtract_26 rfl (lv_at hl 0 rfl) ?_
  refine lv_iload_n hx hb d_K_subtract_27 rfl (lv_at hl 1 rfl) ?_
  refine lv_i2l (v := p0.toInt64) hx hb d_K_subtract_28 rfl ?_
  refine lv_ldc2 (v := (4294967295 : Int64)) hx hb hown (ht _ zw_598) d_K_subtract_29 ?_
  refine lv_land hx hb d_K_subtract_32 ?_
  refine lv_iload_n hx hb d_K_subtract_33 rfl (lv_at hl 2 rfl) ?_
  refine lv_i2l (v := p1.toInt64) hx hb d_K_subtract_34 rfl ?_
  refine lv_ldc2 (v := (4294967295 : Int64)) hx hb hown (ht _ zw_598) d_K_subtract_35 ?_
  refine lv_land hx hb d_K_subtract_38 ?_
  refine lv_iload_n hx hb d_K_subtract_39 rfl (lv_at hl 3 rfl) ?_
  refine lv_i2l (v := p2.toInt64) hx hb d_K_subtract_40 rfl ?_
  refine lv_ladd hx hb d_K_subtract_41 ?_
  refine W.lcmp hx hb d_K_subtract_42 ?_
  refine zcut (X := Int32) (G := fun v9 H locs ls => v9 = (if (0 : Int32) ≤ (lg_cmp (p0.toInt64 &&& (4294967295 : Int64)) ((p1.toInt64 &&& (4294967295 : Int64)) + p2.toInt64)) then (0 : Int32) else (1 : Int32)) ∧ va_P D vwCl (wK a (upd u_1 2 (zushr ((p0 ^^^ p1) &&& (p0 ^^^ (u_1 0))) (31 : Int32)))) H ∧ va_D A (wK a (upd u_1 2 (zushr ((p0 ^^^ p1) &&& (p0 ^^^ (u_1 0))) (31 : Int32)))) ∧ va_S A s.heap H locs ∧ lv_has ls 4 [(0, .ref a), (1, .int p0), (2, .int p1), (3, .int p2)]) (fr := fun v9 ls => F0 m 51 ls [.int v9, .ref a]) (fun J_3 => ?_) (fun v9 H locs ls hG => ?_)
  · refine lv_if_ge (tgt := 50) hx hb d_K_subtract_43 (by decide) (fun c_4 => ?_) (fun c_4 => ?_)
    · refine lv_iconst (v := (0 : Int32)) hx hb d_K_subtract_50 (by decide) ?_
      exact J_3 (0 : Int32) _ _ _ ⟨by simp only [if_pos c_4], hP, hD, hS, hl⟩
    refine lv_iconst (v := (1 : Int32)) hx hb d_K_subtract_46 (by decide) ?_
    refine lv_goto (tgt := 51) hx hb d_K_subtract_47 (by decide) ?_
    exact J_3 (1 : Int32) _ _ _ ⟨by simp only [if_neg c_4], hP, hD, hS, hl⟩
  obtain ⟨x_2, rfl⟩ : ∃ z, z = v9 := ⟨_, rfl⟩
  obtain ⟨ex_2, hP, hD, hS, hl⟩ := hG
  have zbx_2 : zB x_2 := by rw [ex_2]; repeat' first | exact zB0 | exact zB1 | assumption | apply zB_ite
  refine va_put (D := D) (ci := 3) (v := .int x_2) (ty := .int) (C := "WindowMachine$Reckoner") (T := T_K) (N := 4) hx hb ht zi_K ty_K tyok_K nm_K hown hK hP hD hS 0 rfl rfl 3 (by decide) (ht _ zw_90) (fun _ h9 => h9) rfl (by decide +kernel) rfl rfl (Nat.le_of_ble_eq_true rfl) d_K_subtract_51 (fun H locs hP hD hS => ?_)
  have hP : va_P D vwCl (wK a (upd (upd u_1 2 (zushr ((p0 ^^^ p1) &&& (p0 ^^^ (u_1 0))) (31 : Int32))) 3 x_2)) H := hP
  have hD : va_D A (wK a (upd (upd u_1 2 (zushr ((p0 ^^^ p1) &&& (p0 ^^^ (u_1 0))) (31 : Int32))) 3 x_2)) := hD
  exact zl_v (u := upd (upd u_1 2 (zushr ((p0 ^^^ p1) &&& (p0 ^^^ (u_1 0))) (31 : Int32))) 3 x_2) hx hb hr hlocks hS hP hD (by subst eu_1; subst ex_2; simp only [f_subtract]) d_K_subtract_54
theorem d_K_flags_0 : decode c_K_flags 0 = .ok (.aload_n 0, 1) := by decide +kernel
theorem d_K_flags_1 : decode c_K_flags 1 = .ok (.getfield 42, 3) := by decide +kernel
theorem d_K_flags_4 : decode c_K_flags 4 = .ok (.ifCond .ge 8, 3) := by decide +kernel
theorem d_K_flags_7 : decode c_K_flags 7 = .ok (.bipush 8, 2) := by decide +kernel
theorem d_K_flags_9 : decode c_K_flags 9 = .ok (.goto 4, 3) := by decide +kernel
theorem d_K_flags_12 : decode c_K_flags 12 = .ok (.iconst 0, 1) := by decide +kernel
theorem d_K_flags_13 : decode c_K_flags 13 = .ok (.istore_n 1, 1) := by decide +kernel
theorem d_K_flags_14 : decode c_K_flags 14 = .ok (.aload_n 0, 1) := by decide +kernel
theorem d_K_flags_15 : decode c_K_flags 15 = .ok (.getfield 42, 3) := by decide +kernel
theorem d_K_flags_18 : decode c_K_flags 18 = .ok (.ifCond .ne 7, 3) := by decide +kernel
theorem d_K_flags_21 : decode c_K_flags 21 = .ok (.iconst 4, 1) := by decide +kernel
theorem d_K_flags_22 : decode c_K_flags 22 = .ok (.goto 4, 3) := by decide +kernel
theorem d_K_flags_25 : decode c_K_flags 25 = .ok (.iconst 0, 1) := by decide +kernel
theorem d_K_flags_26 : decode c_K_flags 26 = .ok (.istore_n 2, 1) := by decide +kernel
theorem d_K_flags_27 : decode c_K_flags 27 = .ok (.iload_n 1, 1) := by decide +kernel
theorem d_K_flags_28 : decode c_K_flags 28 = .ok (.iload_n 2, 1) := by decide +kernel
theorem d_K_flags_29 : decode c_K_flags 29 = .ok (.ior, 1) := by decide +kernel
theorem d_K_flags_30 : decode c_K_flags 30 = .ok (.aload_n 0, 1) := by decide +kernel
theorem d_K_flags_31 : decode c_K_flags 31 = .ok (.getfield 46, 3) := by decide +kernel
theorem d_K_flags_34 : decode c_K_flags 34 = .ok (.iconst 1, 1) := by decide +kernel
theorem d_K_flags_35 : decode c_K_flags 35 = .ok (.ishl, 1) := by decide +kernel
theorem d_K_flags_36 : decode c_K_flags 36 = .ok (.ior, 1) := by decide +kernel
theorem d_K_flags_37 : decode c_K_flags 37 = .ok (.aload_n 0, 1) := by decide +kernel
theorem d_K_flags_38 : decode c_K_flags 38 = .ok (.getfield 49, 3) := by decide +kernel
theorem d_K_flags_41 : decode c_K_flags 41 = .ok (.ior, 1) := by decide +kernel
theorem d_K_flags_42 : decode c_K_flags 42 = .ok (.ireturn, 1) := by decide +kernel
theorem kd_K_flags : (y_K_flags).cls = "WindowMachine$Reckoner" ∧ (y_K_flags).cls ≠ "java/lang/invoke/MethodHandle" ∧ (y_K_flags).cls ≠ "java/lang/invoke/VarHandle" ∧ (parseMethodDescriptor (y_K_flags).desc).map (fun d => d.parameters.length) = some 0 := by decide +kernel
def f_kflags (st : Nat → Int32) : Int32 := (let x_1 := (if (0 : Int32) ≤ (st 0) then (0 : Int32) else (8 : Int32)); (let x_4 := (if (st 0) = (0 : Int32) then (4 : Int32) else (0 : Int32)); ((x_1 ||| x_4) ||| ((st 2) <<< ((1 : Int32) &&& 31))) ||| (st 3)))
set_option maxHeartbeats 4000000 in
set_option maxRecDepth 100000 in
theorem mt_K_flags (l : Launch) (D : va_G) (a : Nat) (sz : Nat) (st : Nat → Int32) : Met l y_K_flags w_K_flags ({ frames := 0, cells := 0, slots := 0, locals := 0 }) (va_Pc [.ref a] (zw_pre D vwCl [] sz (wK a st) (fun _ => True))) (va_Qi (fun r (_ : Unit) => r = f_kflags st) (fun u t => zw_at D vwCl (va_A (wK a st) sz) ((fun (_ : Unit) => wK a st) u) t) (va_A (wK a st) sz)) 0 0 (va_A (wK a st) sz) := by
  refine zm (Qf := fun A => va_Qi (fun r (_ : Unit) => r = f_kflags st) (fun u t => zw_at D vwCl A ((fun (_ : Unit) => wK a st) u) t) A) (Zf := fun _ _ => True) (cc := c_K_flags) (nL := 3) (ret := (some .int)) (by decide) rfl (Nat.le_of_ble_eq_true rfl) ?_
  intro p e s m below meth c9 A H locs ls hx hb hml hown hts hr hlocks hA hK hP hD hS hZ hl
  have hl : lv_has ls 3 [(0, .ref a)] := hl
  have ht : ∀ w9 ∈ zT, w9.before _ s = true := fun w9 h9 => hts w9 (List.mem_cons_of_mem _ h9)
  refine lv_aload_n hx hb d_K_flags_0 rfl (lv_at hl 0 rfl) ?_
  refine va_get (D := D) (ci := 3) (v := .int (st 0)) (C := "WindowMachine$Reckoner") (T := T_K) (N := 4) hx hb ht zi_K hown hK hP 0 rfl rfl 0 (by decide) (ht _ zw_85) (fun _ h9 => h9) rfl d_K_flags_1 ?_
  refine zcut (X := Int32) (G := fun v9 H locs ls => v9 = (if (0 : Int32) ≤ (st 0) then (0 : Int32) else (8 : Int32)) ∧ va_P D vwCl (wK a st) H ∧ va_D A (wK a st) ∧ va_S A s.heap H locs ∧ lv_has ls 3 [(0, .ref a)]) (fr := fun v9 ls => F0 m 13 ls [.int v9]) (fun J_2 => ?_) (fun v9 H locs ls hG => ?_)
  · refine lv_if_ge (tgt := 12) hx hb d_K_flags_4 (by decide) (fun c_3 => ?_) (fun c_3 => ?_)
    · refine lv_iconst (v := (0 : Int32)) hx hb d_K_flags_12 (by decide) ?_
      exact J_2 (0 : Int32) _ _ _ ⟨by simp only [if_pos c_3], hP, hD, hS, hl⟩
    refine lv_bipush (v := (8 : Int32)) hx hb d_K_flags_7 (by decide) ?_
    refine lv_goto (tgt := 13) hx hb d_K_flags_9 (by decide) ?_
    exact J_2 (8 : Int32) _ _ _ ⟨by simp only [if_neg c_3], hP, hD, hS, hl⟩
  obtain ⟨x_1, rfl⟩ : ∃ z, z = v9 := ⟨_, rfl⟩
  obtain ⟨ex_1, hP, hD, hS, hl⟩ := hG
  refine lv_istore_n (lv' := [(1, .int x_1), (0, .ref a)]) hx hb d_K_flags_13 rfl hl (by decide) rfl (fun ls hl => ?_)
  refine lv_aload_n hx hb d_K_flags_14 rfl (lv_at hl 1 rfl) ?_
  refine va_get (D := D) (ci := 3) (v := .int (st 0)) (C := "WindowMachine$Reckoner") (T := T_K) (N := 4) hx hb ht zi_K hown hK hP 0 rfl rfl 0 (by decide) (ht _ zw_85) (fun _ h9 => h9) rfl d_K_flags_15 ?_
  refine zcut (X := Int32) (G := fun v9 H locs ls => v9 = (if (st 0) = (0 : Int32) then (4 : Int32) else (0 : Int32)) ∧ va_P D vwCl (wK a st) H ∧ va_D A (wK a st) ∧ va_S A s.heap H locs ∧ lv_has ls 3 [(0, .ref a), (1, .int x_1)]) (fr := fun v9 ls => F0 m 26 ls [.int v9]) (fun J_5 => ?_) (fun v9 H locs ls hG => ?_)
  · refine lv_if_ne (tgt := 25) hx hb d_K_flags_18 (by decide) (fun c_6 => ?_) (fun c_6 => ?_)
    · refine lv_iconst (v := (0 : Int32)) hx hb d_K_flags_25 (by decide) ?_
      exact J_5 (0 : Int32) _ _ _ ⟨by simp only [if_neg c_6], hP, hD, hS, (lv_sub hl [1, 0] rfl)⟩
    refine lv_iconst (v := (4 : Int32)) hx hb d_K_flags_21 (by decide) ?_
    refine lv_goto (tgt := 26) hx hb d_K_flags_22 (by decide) ?_
    exact J_5 (4 : Int32) _ _ _ ⟨by simp only [if_pos c_6], hP, hD, hS, (lv_sub hl [1, 0] rfl)⟩
  obtain ⟨x_4, rfl⟩ : ∃ z, z = v9 := ⟨_, rfl⟩
  obtain ⟨ex_4, hP, hD, hS, hl⟩ := hG
  refine lv_istore_n (lv' := [(2, .int x_4), (0, .ref a), (1, .int x_1)]) hx hb d_K_flags_26 rfl hl (by decide) rfl (fun ls hl => ?_)
  refine lv_iload_n hx hb d_K_flags_27 rfl (lv_at hl 2 rfl) ?_
  refine lv_iload_n hx hb d_K_flags_28 rfl (lv_at hl 0 rfl) ?_
  refine lv_ior hx hb d_K_flags_29 ?_
  refine lv_aload_n hx hb d_K_flags_30 rfl (lv_at hl 1 rfl) ?_
  refine va_get (D := D) (ci := 3) (v := .int (st 2)) (C := "WindowMachine$Reckoner") (T := T_K) (N := 4) hx hb ht zi_K hown hK hP 0 rfl rfl 2 (by decide) (ht _ zw_89) (fun _ h9 => h9) rfl d_K_flags_31 ?_
  refine lv_iconst (v := (1 : Int32)) hx hb d_K_flags_34 (by decide) ?_
  refine lv_ishl hx hb d_K_flags_35 ?_
  refine lv_ior hx hb d_K_flags_36 ?_
  refine lv_aload_n hx hb d_K_flags_37 rfl (lv_at hl 1 rfl) ?_
  refine va_get (D := D) (ci := 3) (v := .int (st 3)) (C := "WindowMachine$Reckoner") (T := T_K) (N := 4) hx hb ht zi_K hown hK hP 0 rfl rfl 3 (by decide) (ht _ zw_90) (fun _ h9 => h9) rfl d_K_flags_38 ?_
  refine lv_ior hx hb d_K_flags_41 ?_
  exact zl_i (u := ()) hx hb hr hlocks hS hP hD (by subst ex_1; subst ex_4; simp only [f_kflags]) d_K_flags_42
theorem d_K_takeProduct_0 : decode c_K_takeProduct 0 = .ok (.aload_n 0, 1) := by decide +kernel
theorem d_K_takeProduct_1 : decode c_K_takeProduct 1 = .ok (.lload_n 1, 1) := by decide +kernel
theorem d_K_takeProduct_2 : decode c_K_takeProduct 2 = .ok (.l2i, 1) := by decide +kernel
theorem d_K_takeProduct_3 : decode c_K_takeProduct 3 = .ok (.invokevirtual 7, 3) := by decide +kernel
theorem d_K_takeProduct_6 : decode c_K_takeProduct 6 = .ok (.aload_n 0, 1) := by decide +kernel
theorem d_K_takeProduct_7 : decode c_K_takeProduct 7 = .ok (.lload_n 1, 1) := by decide +kernel
theorem d_K_takeProduct_8 : decode c_K_takeProduct 8 = .ok (.bipush 32, 2) := by decide +kernel
theorem d_K_takeProduct_10 : decode c_K_takeProduct 10 = .ok (.lushr, 1) := by decide +kernel
theorem d_K_takeProduct_11 : decode c_K_takeProduct 11 = .ok (.l2i, 1) := by decide +kernel
theorem d_K_takeProduct_12 : decode c_K_takeProduct 12 = .ok (.putfield 52, 3) := by decide +kernel
theorem d_K_takeProduct_15 : decode c_K_takeProduct 15 = .ok (.return_, 1) := by decide +kernel
theorem kd_K_takeProduct : (y_K_takeProduct).cls = "WindowMachine$Reckoner" ∧ (y_K_takeProduct).cls ≠ "java/lang/invoke/MethodHandle" ∧ (y_K_takeProduct).cls ≠ "java/lang/invoke/VarHandle" ∧ (parseMethodDescriptor (y_K_takeProduct).desc).map (fun d => d.parameters.length) = some 1 := by decide +kernel
def f_takeProduct (st : Nat → Int32) (p0 : Int64) : Nat → Int32 := (let u_1 := f_take st p0.toInt32; upd u_1 1 ((zlushr p0 (32 : Int32)).toInt32))
set_option maxHeartbeats 4000000 in
set_option maxRecDepth 100000 in
theorem mt_K_takeProduct (l : Launch) (D : va_G) (a : Nat) (sz : Nat) (st : Nat → Int32) (p0 : Int64) : Met l y_K_takeProduct w_K_takeProduct ({ frames := 1, cells := 0, slots := 0, locals := 21 }) (va_Pc [.ref a, .long p0] (zw_pre D vwCl [] sz (wK a st) (fun _ => True))) (va_Qv (fun (u : Nat → Int32) => u = f_takeProduct st p0) (fun u t => zw_at D vwCl (va_A (wK a st) sz) ((fun (u : Nat → Int32) => wK a u) u) t) (va_A (wK a st) sz)) 0 0 (va_A (wK a st) sz) := by
  refine zm (Qf := fun A => va_Qv (fun (u : Nat → Int32) => u = f_takeProduct st p0) (fun u t => zw_at D vwCl A ((fun (u : Nat → Int32) => wK a u) u) t) A) (Zf := fun _ _ => True) (cc := c_K_takeProduct) (nL := 3) (ret := none) (by decide) rfl (Nat.le_of_ble_eq_true rfl) ?_
  intro p e s m below meth c9 A H locs ls hx hb hml hown hts hr hlocks hA hK hP hD hS hZ hl
  have hl : lv_has ls 3 [(0, .ref a), (1, .long p0)] := hl
  have ht : ∀ w9 ∈ zT, w9.before _ s = true := fun w9 h9 => hts w9 (List.mem_cons_of_mem _ h9)
  refine lv_aload_n hx hb d_K_takeProduct_0 rfl (lv_at hl 0 rfl) ?_
  refine lv_lload_n hx hb d_K_takeProduct_1 rfl (lv_at hl 1 rfl) ?_
  refine lv_l2i (v := p0.toInt32) hx hb d_K_takeProduct_2 rfl ?_
  refine zc_v (w2 := fun u9 => wK a u9) (va_runV (As := [.int p0.toInt32]) (rest := []) ⟨hx, hb, hml, hown, ht⟩ (mt_K_take l D a H.size st p0.toInt32) (cwV 1 ht (zgV zw_590 zw_592 zs_31 zw_6 zw_593) rfl rfl rfl kd_K_take ⟨Nat.le_of_ble_eq_true rfl, Nat.le_of_ble_eq_true rfl⟩) ⟨zw_blind zw_tt, va_recv (hK.sub (tys' := []) [] rfl) (hP.sub (ws' := wK a st) [0] rfl) (ci := 3) (q0 := 0) rfl rfl, zw_go (hP.sub (ws' := wK a st) [0] rfl) (hD.sub (ws' := wK a st) [0] (by decide) rfl) (hK.sub (tys' := []) [] rfl) (fun _ _ _ => trivial)⟩ rfl rfl hl.1 rfl (lv_room (Nat.le_of_ble_eq_true rfl)) d_K_takeProduct_3 ⟨Nat.le_of_ble_eq_true rfl, Nat.le_of_ble_eq_true rfl⟩) hP hD hS hA [0] [] [0] rfl rfl (by decide) (by decide) (by decide) (fun _ => rfl) (fun u_1 H locs hw hP hD hS => ?_)
  have eu_1 := hw
  refine lv_aload_n hx hb d_K_takeProduct_6 rfl (lv_at hl 0 rfl) ?_
  refine lv_lload_n hx hb d_K_takeProduct_7 rfl (lv_at hl 1 rfl) ?_
  refine lv_bipush (v := (32 : Int32)) hx hb d_K_takeProduct_8 (by decide) ?_
  refine lv_lushr (v := zlushr p0 (32 : Int32)) hx hb d_K_takeProduct_10 rfl ?_
  refine lv_l2i (v := (zlushr p0 (32 : Int32)).toInt32) hx hb d_K_takeProduct_11 rfl ?_
  refine va_put (D := D) (ci := 3) (v := .int ((zlushr p0 (32 : Int32)).toInt32)) (ty := .int) (C := "WindowMachine$Reckoner") (T := T_K) (N := 4) hx hb ht zi_K ty_K tyok_K nm_K hown hK hP hD hS 0 rfl rfl 1 (by decide) (ht _ zw_87) (fun _ h9 => h9) rfl (by decide +kernel) rfl rfl (Nat.le_of_ble_eq_true rfl) d_K_takeProduct_12 (fun H locs hP hD hS => ?_)
  have hP : va_P D vwCl (wK a (upd u_1 1 ((zlushr p0 (32 : Int32)).toInt32))) H := hP
  have hD : va_D A (wK a (upd u_1 1 ((zlushr p0 (32 : Int32)).toInt32))) := hD
  exact zl_v (u := upd u_1 1 ((zlushr p0 (32 : Int32)).toInt32)) hx hb hr hlocks hS hP hD (by subst eu_1; simp only [f_takeProduct]) d_K_takeProduct_15
theorem d_K_takeQuotient_0 : decode c_K_takeQuotient 0 = .ok (.lload_n 3, 1) := by decide +kernel
theorem d_K_takeQuotient_1 : decode c_K_takeQuotient 1 = .ok (.lload 5, 2) := by decide +kernel
theorem d_K_takeQuotient_3 : decode c_K_takeQuotient 3 = .ok (.lload_n 1, 1) := by decide +kernel
theorem d_K_takeQuotient_4 : decode c_K_takeQuotient 4 = .ok (.invokestatic 55, 3) := by decide +kernel
theorem d_K_takeQuotient_7 : decode c_K_takeQuotient 7 = .ok (.invokestatic 61, 3) := by decide +kernel
theorem d_K_takeQuotient_10 : decode c_K_takeQuotient 10 = .ok (.lstore 7, 2) := by decide +kernel
theorem d_K_takeQuotient_12 : decode c_K_takeQuotient 12 = .ok (.aload_n 0, 1) := by decide +kernel
theorem d_K_takeQuotient_13 : decode c_K_takeQuotient 13 = .ok (.lload 7, 2) := by decide +kernel
theorem d_K_takeQuotient_15 : decode c_K_takeQuotient 15 = .ok (.l2i, 1) := by decide +kernel
theorem d_K_takeQuotient_16 : decode c_K_takeQuotient 16 = .ok (.invokevirtual 7, 3) := by decide +kernel
theorem d_K_takeQuotient_19 : decode c_K_takeQuotient 19 = .ok (.aload_n 0, 1) := by decide +kernel
theorem d_K_takeQuotient_20 : decode c_K_takeQuotient 20 = .ok (.lload 7, 2) := by decide +kernel
theorem d_K_takeQuotient_22 : decode c_K_takeQuotient 22 = .ok (.lload_n 1, 1) := by decide +kernel
theorem d_K_takeQuotient_23 : decode c_K_takeQuotient 23 = .ok (.lcmp, 1) := by decide +kernel
theorem d_K_takeQuotient_24 : decode c_K_takeQuotient 24 = .ok (.ifCond .ne 7, 3) := by decide +kernel
theorem d_K_takeQuotient_27 : decode c_K_takeQuotient 27 = .ok (.iconst 0, 1) := by decide +kernel
theorem d_K_takeQuotient_28 : decode c_K_takeQuotient 28 = .ok (.goto 4, 3) := by decide +kernel
theorem d_K_takeQuotient_31 : decode c_K_takeQuotient 31 = .ok (.iconst 1, 1) := by decide +kernel
theorem d_K_takeQuotient_32 : decode c_K_takeQuotient 32 = .ok (.putfield 46, 3) := by decide +kernel
theorem d_K_takeQuotient_35 : decode c_K_takeQuotient 35 = .ok (.return_, 1) := by decide +kernel
theorem kd_K_takeQuotient : (y_K_takeQuotient).cls = "WindowMachine$Reckoner" ∧ (y_K_takeQuotient).cls ≠ "java/lang/invoke/MethodHandle" ∧ (y_K_takeQuotient).cls ≠ "java/lang/invoke/VarHandle" ∧ (parseMethodDescriptor (y_K_takeQuotient).desc).map (fun d => d.parameters.length) = some 3 := by decide +kernel
def f_takeQuotient (st : Nat → Int32) (p0 : Int64) (p1 : Int64) (p2 : Int64) : Nat → Int32 := (let x_1 := if (if p0 < p2 then p0 else p2) < p1 then p1 else if p0 < p2 then p0 else p2; (let u_2 := f_take st x_1.toInt32; (let x_3 := (if (lg_cmp x_1 p0) = (0 : Int32) then (0 : Int32) else (1 : Int32)); upd u_2 2 x_3)))
set_option maxHeartbeats 4000000 in
set_option maxRecDepth 100000 in
theorem mt_K_takeQuotient (l : Launch) (D : va_G) (a : Nat) (sz : Nat) (st : Nat → Int32) (p0 : Int64) (p1 : Int64) (p2 : Int64) : Met l y_K_takeQuotient w_K_takeQuotient ({ frames := 1, cells := 0, slots := 0, locals := 21 }) (va_Pc [.ref a, .long p0, .long p1, .long p2] (zw_pre D vwCl [] sz (wK a st) (fun _ => True))) (va_Qv (fun (u : Nat → Int32) => u = f_takeQuotient st p0 p1 p2) (fun u t => zw_at D vwCl (va_A (wK a st) sz) ((fun (u : Nat → Int32) => wK a u) u) t) (va_A (wK a st) sz)) 0 0 (va_A (wK a st) sz) := by
  refine zm (Qf := fun A => va_Qv (fun (u : Nat → Int32) => u = f_takeQuotient st p0 p1 p2) (fun u t => zw_at D vwCl A ((fun (u : Nat → Int32) => wK a u) u) t) A) (Zf := fun _ _ => True) (cc := c_K_takeQuotient) (nL := 9) (ret := none) (by decide) rfl (Nat.le_of_ble_eq_true rfl) ?_
  intro p e s m below meth c9 A H locs ls hx hb hml hown hts hr hlocks hA hK hP hD hS hZ hl
  have hl : lv_has ls 9 [(0, .ref a), (1, .long p0), (3, .long p1), (5, .long p2)] := hl
  have ht : ∀ w9 ∈ zT, w9.before _ s = true := fun w9 h9 => hts w9 (List.mem_cons_of_mem _ h9)
  refine lv_lload_n hx hb d_K_takeQuotient_0 rfl (lv_at hl 2 rfl) ?_
  refine lv_lload hx hb d_K_takeQuotient_1 (lv_at hl 3 rfl) ?_
  refine lv_lload_n hx hb d_K_takeQuotient_3 rfl (lv_at hl 1 rfl) ?_
  refine va_mmin_long hx hb (hml.trans hl.1.symm) hown (ht _ zw_615) (ht _ zw_616) (ht _ zw_18) (ht _ zw_617) (Nat.le_of_ble_eq_true rfl) (Nat.le_of_ble_eq_true rfl) (Nat.le_of_ble_eq_true rfl) (Nat.le_of_ble_eq_true rfl) d_K_takeQuotient_4 ?_
  refine va_mmax_long hx hb (hml.trans hl.1.symm) hown (ht _ zw_618) (ht _ zw_619) (ht _ zw_18) (ht _ zw_620) (Nat.le_of_ble_eq_true rfl) (Nat.le_of_ble_eq_true rfl) (Nat.le_of_ble_eq_true rfl) (Nat.le_of_ble_eq_true rfl) d_K_takeQuotient_7 ?_
  refine lv_topl (fun x_1 ex_1 => ?_)
  refine lv_lstore (lv' := [(7, .long x_1), (0, .ref a), (1, .long p0), (3, .long p1), (5, .long p2)]) hx hb d_K_takeQuotient_10 hl (by decide) rfl (fun ls hl => ?_)
  refine lv_aload_n hx hb d_K_takeQuotient_12 rfl (lv_at hl 1 rfl) ?_
  refine lv_lload hx hb d_K_takeQuotient_13 (lv_at hl 0 rfl) ?_
  refine lv_l2i (v := x_1.toInt32) hx hb d_K_takeQuotient_15 rfl ?_
  refine zc_v (w2 := fun u9 => wK a u9) (va_runV (As := [.int x_1.toInt32]) (rest := []) ⟨hx, hb, hml, hown, ht⟩ (mt_K_take l D a H.size st x_1.toInt32) (cwV 1 ht (zgV zw_590 zw_592 zs_31 zw_6 zw_593) rfl rfl rfl kd_K_take ⟨Nat.le_of_ble_eq_true rfl, Nat.le_of_ble_eq_true rfl⟩) ⟨zw_blind zw_tt, va_recv (hK.sub (tys' := []) [] rfl) (hP.sub (ws' := wK a st) [0] rfl) (ci := 3) (q0 := 0) rfl rfl, zw_go (hP.sub (ws' := wK a st) [0] rfl) (hD.sub (ws' := wK a st) [0] (by decide) rfl) (hK.sub (tys' := []) [] rfl) (fun _ _ _ => trivial)⟩ rfl rfl hl.1 rfl (lv_room (Nat.le_of_ble_eq_true rfl)) d_K_takeQuotient_16 ⟨Nat.le_of_ble_eq_true rfl, Nat.le_of_ble_eq_true rfl⟩) hP hD hS hA [0] [] [0] rfl rfl (by decide) (by decide) (by decide) (fun _ => rfl) (fun u_2 H locs hw hP hD hS => ?_)
  have eu_2 := hw
  refine lv_aload_n hx hb d_K_takeQuotient_19 rfl (lv_at hl 1 rfl) ?_
  refine lv_lload hx hb d_K_takeQuotient_20 (lv_at hl 0 rfl) ?_
  refine lv_lload_n hx hb d_K_takeQuotient_22 rfl (lv_at hl 2 rfl) ?_
  refine W.lcmp hx hb d_K_takeQuotient_23 ?_
  refine zcut (X := Int32) (G := fun v9 H locs ls => v9 = (if (lg_cmp x_1 p0) = (0 : Int32) then (0 : Int32) else (1 : Int32)) ∧ va_P D vwCl (wK a u_2) H ∧ va_D A (wK a u_2) ∧ va_S A s.heap H locs ∧ lv_has ls 9 [(0, .ref a), (1, .long p0), (3, .long p1), (5, .long p2), (7, .long x_1)]) (fr := fun v9 ls => F0 m 32 ls [.int v9, .ref a]) (fun J_4 => ?_) (fun v9 H locs ls hG => ?_)
  · refine lv_if_ne (tgt := 31) hx hb d_K_takeQuotient_24 (by decide) (fun c_5 => ?_) (fun c_5 => ?_)
    · refine lv_iconst (v := (1 : Int32)) hx hb d_K_takeQuotient_31 (by decide) ?_
      exact J_4 (1 : Int32) _ _ _ ⟨by simp only [if_neg c_5], hP, hD, hS, (lv_sub hl [1, 2, 3, 4, 0] rfl)⟩
    refine lv_iconst (v := (0 : Int32)) hx hb d_K_takeQuotient_27 (by decide) ?_
    refine lv_goto (tgt := 32) hx hb d_K_takeQuotient_28 (by decide) ?_
    exact J_4 (0 : Int32) _ _ _ ⟨by simp only [if_pos c_5], hP, hD, hS, (lv_sub hl [1, 2, 3, 4, 0] rfl)⟩
  obtain ⟨x_3, rfl⟩ : ∃ z, z = v9 := ⟨_, rfl⟩
  obtain ⟨ex_3, hP, hD, hS, hl⟩ := hG
  have zbx_3 : zB x_3 := by rw [ex_3]; repeat' first | exact zB0 | exact zB1 | assumption | apply zB_ite
  refine va_put (D := D) (ci := 3) (v := .int x_3) (ty := .int) (C := "WindowMachine$Reckoner") (T := T_K) (N := 4) hx hb ht zi_K ty_K tyok_K nm_K hown hK hP hD hS 0 rfl rfl 2 (by decide) (ht _ zw_89) (fun _ h9 => h9) rfl (by decide +kernel) rfl rfl (Nat.le_of_ble_eq_true rfl) d_K_takeQuotient_32 (fun H locs hP hD hS => ?_)
  have hP : va_P D vwCl (wK a (upd u_2 2 x_3)) H := hP
  have hD : va_D A (wK a (upd u_2 2 x_3)) := hD
  exact zl_v (u := upd u_2 2 x_3) hx hb hr hlocks hS hP hD (by subst ex_1; subst eu_2; subst ex_3; simp only [f_takeQuotient]) d_K_takeQuotient_35
theorem d_K_quotientWithSign_0 : decode c_K_quotientWithSign 0 = .ok (.iload_n 0, 1) := by decide +kernel
theorem d_K_quotientWithSign_1 : decode c_K_quotientWithSign 1 = .ok (.i2l, 1) := by decide +kernel
theorem d_K_quotientWithSign_2 : decode c_K_quotientWithSign 2 = .ok (.bipush 32, 2) := by decide +kernel
theorem d_K_quotientWithSign_4 : decode c_K_quotientWithSign 4 = .ok (.lshl, 1) := by decide +kernel
theorem d_K_quotientWithSign_5 : decode c_K_quotientWithSign 5 = .ok (.iload_n 1, 1) := by decide +kernel
theorem d_K_quotientWithSign_6 : decode c_K_quotientWithSign 6 = .ok (.i2l, 1) := by decide +kernel
theorem d_K_quotientWithSign_7 : decode c_K_quotientWithSign 7 = .ok (.ldc2_w 20, 3) := by decide +kernel
theorem d_K_quotientWithSign_10 : decode c_K_quotientWithSign 10 = .ok (.land, 1) := by decide +kernel
theorem d_K_quotientWithSign_11 : decode c_K_quotientWithSign 11 = .ok (.lor, 1) := by decide +kernel
theorem d_K_quotientWithSign_12 : decode c_K_quotientWithSign 12 = .ok (.lstore_n 3, 1) := by decide +kernel
theorem d_K_quotientWithSign_13 : decode c_K_quotientWithSign 13 = .ok (.iload_n 2, 1) := by decide +kernel
theorem d_K_quotientWithSign_14 : decode c_K_quotientWithSign 14 = .ok (.ifCond .eq 16, 3) := by decide +kernel
theorem d_K_quotientWithSign_17 : decode c_K_quotientWithSign 17 = .ok (.iload_n 2, 1) := by decide +kernel
theorem d_K_quotientWithSign_18 : decode c_K_quotientWithSign 18 = .ok (.iconst (-1), 1) := by decide +kernel
theorem d_K_quotientWithSign_19 : decode c_K_quotientWithSign 19 = .ok (.if_icmp .ne 15, 3) := by decide +kernel
theorem d_K_quotientWithSign_22 : decode c_K_quotientWithSign 22 = .ok (.lload_n 3, 1) := by decide +kernel
theorem d_K_quotientWithSign_23 : decode c_K_quotientWithSign 23 = .ok (.ldc2_w 66, 3) := by decide +kernel
theorem d_K_quotientWithSign_26 : decode c_K_quotientWithSign 26 = .ok (.lcmp, 1) := by decide +kernel
theorem d_K_quotientWithSign_27 : decode c_K_quotientWithSign 27 = .ok (.ifCond .ne 7, 3) := by decide +kernel
theorem d_K_quotientWithSign_30 : decode c_K_quotientWithSign 30 = .ok (.ldc2_w 68, 3) := by decide +kernel
theorem d_K_quotientWithSign_33 : decode c_K_quotientWithSign 33 = .ok (.lreturn, 1) := by decide +kernel
theorem d_K_quotientWithSign_34 : decode c_K_quotientWithSign 34 = .ok (.lload_n 3, 1) := by decide +kernel
theorem d_K_quotientWithSign_35 : decode c_K_quotientWithSign 35 = .ok (.iload_n 2, 1) := by decide +kernel
theorem d_K_quotientWithSign_36 : decode c_K_quotientWithSign 36 = .ok (.i2l, 1) := by decide +kernel
theorem d_K_quotientWithSign_37 : decode c_K_quotientWithSign 37 = .ok (.ldiv, 1) := by decide +kernel
theorem d_K_quotientWithSign_38 : decode c_K_quotientWithSign 38 = .ok (.lreturn, 1) := by decide +kernel
theorem kd_K_quotientWithSign : (y_K_quotientWithSign).cls = "WindowMachine$Reckoner" ∧ (y_K_quotientWithSign).cls ≠ "java/lang/invoke/MethodHandle" ∧ (y_K_quotientWithSign).cls ≠ "java/lang/invoke/VarHandle" ∧ (parseMethodDescriptor (y_K_quotientWithSign).desc).map (fun d => d.parameters.length) = some 3 := by decide +kernel
def f_quotientWithSign (p0 : Int32) (p1 : Int32) (p2 : Int32) : Int64 := (let x_1 := (zlshl p0.toInt64 (32 : Int32)) ||| (p1.toInt64 &&& (4294967295 : Int64)); (if p2 = (0 : Int32) then (2147483648 : Int64) else (if p2 = (-1 : Int32) then (if (lg_cmp x_1 (-9223372036854775808 : Int64)) = (0 : Int32) then (2147483648 : Int64) else x_1 / p2.toInt64) else x_1 / p2.toInt64)))
set_option maxHeartbeats 4000000 in
set_option maxRecDepth 100000 in
theorem mt_K_quotientWithSign (l : Launch) (D : va_G) (sz : Nat) (p0 : Int32) (p1 : Int32) (p2 : Int32) : Met l y_K_quotientWithSign w_K_quotientWithSign ({ frames := 0, cells := 0, slots := 0, locals := 0 }) (va_Pc [.int p0, .int p1, .int p2] (zw_pre D vwCl [] sz ([]) (fun _ => True))) (va_Ql (fun r (_ : Unit) => r = f_quotientWithSign p0 p1 p2) (fun u t => zw_at D vwCl (va_A ([]) sz) ((fun (_ : Unit) => []) u) t) (va_A ([]) sz)) 0 0 (va_A ([]) sz) := by
  refine zm (Qf := fun A => va_Ql (fun r (_ : Unit) => r = f_quotientWithSign p0 p1 p2) (fun u t => zw_at D vwCl A ((fun (_ : Unit) => []) u) t) A) (Zf := fun _ _ => True) (cc := c_K_quotientWithSign) (nL := 5) (ret := (some .long)) (by decide) rfl (Nat.le_of_ble_eq_true rfl) ?_
  intro p e s m below meth c9 A H locs ls hx hb hml hown hts hr hlocks hA hK hP hD hS hZ hl
  have hl : lv_has ls 5 [(0, .int p0), (1, .int p1), (2, .int p2)] := hl
  have ht : ∀ w9 ∈ zT, w9.before _ s = true := fun w9 h9 => hts w9 (List.mem_cons_of_mem _ h9)
  refine lv_iload_n hx hb d_K_quotientWithSign_0 rfl (lv_at hl 0 rfl) ?_
  refine lv_i2l (v := p0.toInt64) hx hb d_K_quotientWithSign_1 rfl ?_
  refine lv_bipush (v := (32 : Int32)) hx hb d_K_quotientWithSign_2 (by decide) ?_
  refine lv_lshl (v := zlshl p0.toInt64 (32 : Int32)) hx hb d_K_quotientWithSign_4 rfl ?_
  refine lv_iload_n hx hb d_K_quotientWithSign_5 rfl (lv_at hl 1 rfl) ?_
  refine lv_i2l (v := p1.toInt64) hx hb d_K_quotientWithSign_6 rfl ?_
  refine lv_ldc2 (v := (4294967295 : Int64)) hx hb hown (ht _ zw_598) d_K_quotientWithSign_7 ?_
  refine lv_land hx hb d_K_quotientWithSign_10 ?_
  refine lv_lor hx hb d_K_quotientWithSign_11 ?_
  refine lv_topl (fun x_1 ex_1 => ?_)
  refine lv_lstore_n (lv' := [(3, .long x_1), (0, .int p0), (1, .int p1), (2, .int p2)]) hx hb d_K_quotientWithSign_12 rfl hl (by decide) rfl (fun ls hl => ?_)
  refine lv_iload_n hx hb d_K_quotientWithSign_13 rfl (lv_at hl 3 rfl) ?_
  refine lv_if_eq (tgt := 30) hx hb d_K_quotientWithSign_14 (by decide) (fun c_2 => ?_) (fun c_2 => ?_)
  · refine lv_ldc2 (v := (2147483648 : Int64)) hx hb hown (ht _ zw_625) d_K_quotientWithSign_30 ?_
    exact zl_l (u := ()) hx hb hr hlocks hS hP hD (by subst ex_1; simp only [f_quotientWithSign, if_pos c_2]) d_K_quotientWithSign_33
  refine lv_iload_n hx hb d_K_quotientWithSign_17 rfl (lv_at hl 3 rfl) ?_
  refine lv_iconst (v := (-1 : Int32)) hx hb d_K_quotientWithSign_18 (by decide) ?_
  refine lv_icmp_ne (tgt := 34) hx hb d_K_quotientWithSign_19 (by decide) (fun c_3 => ?_) (fun c_3 => ?_)
  · refine lv_lload_n hx hb d_K_quotientWithSign_34 rfl (lv_at hl 0 rfl) ?_
    refine lv_iload_n hx hb d_K_quotientWithSign_35 rfl (lv_at hl 3 rfl) ?_
    refine lv_i2l (v := p2.toInt64) hx hb d_K_quotientWithSign_36 rfl ?_
    refine lv_ldiv hx hb d_K_quotientWithSign_37 (fun hz => c_2 (i64z hz)) ?_
    exact zl_l (u := ()) hx hb hr hlocks hS hP hD (by subst ex_1; simp only [f_quotientWithSign, if_neg c_2, if_neg c_3]) d_K_quotientWithSign_38
  refine lv_lload_n hx hb d_K_quotientWithSign_22 rfl (lv_at hl 0 rfl) ?_
  refine lv_ldc2 (v := (-9223372036854775808 : Int64)) hx hb hown (ht _ zw_624) d_K_quotientWithSign_23 ?_
  refine W.lcmp hx hb d_K_quotientWithSign_26 ?_
  refine lv_if_ne (tgt := 34) hx hb d_K_quotientWithSign_27 (by decide) (fun c_4 => ?_) (fun c_4 => ?_)
  · refine lv_lload_n hx hb d_K_quotientWithSign_34 rfl (lv_at hl 0 rfl) ?_
    refine lv_iload_n hx hb d_K_quotientWithSign_35 rfl (lv_at hl 3 rfl) ?_
    refine lv_i2l (v := p2.toInt64) hx hb d_K_quotientWithSign_36 rfl ?_
    refine lv_ldiv hx hb d_K_quotientWithSign_37 (fun hz => c_2 (i64z hz)) ?_
    exact zl_l (u := ()) hx hb hr hlocks hS hP hD (by subst ex_1; simp only [f_quotientWithSign, if_neg c_2, if_pos c_3, if_neg c_4]) d_K_quotientWithSign_38
  refine lv_ldc2 (v := (2147483648 : Int64)) hx hb hown (ht _ zw_625) d_K_quotientWithSign_30 ?_
  exact zl_l (u := ()) hx hb hr hlocks hS hP hD (by subst ex_1; simp only [f_quotientWithSign, if_neg c_2, if_pos c_3, if_pos c_4]) d_K_quotientWithSign_33
theorem d_K_quotientWithoutSign_0 : decode c_K_quotientWithoutSign 0 = .ok (.lload_n 0, 1) := by decide +kernel
theorem d_K_quotientWithoutSign_1 : decode c_K_quotientWithoutSign 1 = .ok (.lload_n 3, 1) := by decide +kernel
theorem d_K_quotientWithoutSign_2 : decode c_K_quotientWithoutSign 2 = .ok (.lcmp, 1) := by decide +kernel
theorem d_K_quotientWithoutSign_3 : decode c_K_quotientWithoutSign 3 = .ok (.ifCond .lt 7, 3) := by decide +kernel
theorem d_K_quotientWithoutSign_6 : decode c_K_quotientWithoutSign 6 = .ok (.ldc2_w 64, 3) := by decide +kernel
theorem d_K_quotientWithoutSign_9 : decode c_K_quotientWithoutSign 9 = .ok (.lreturn, 1) := by decide +kernel
theorem d_K_quotientWithoutSign_10 : decode c_K_quotientWithoutSign 10 = .ok (.lload_n 0, 1) := by decide +kernel
theorem d_K_quotientWithoutSign_11 : decode c_K_quotientWithoutSign 11 = .ok (.lstore 5, 2) := by decide +kernel
theorem d_K_quotientWithoutSign_13 : decode c_K_quotientWithoutSign 13 = .ok (.lconst 0, 1) := by decide +kernel
theorem d_K_quotientWithoutSign_14 : decode c_K_quotientWithoutSign 14 = .ok (.lstore 7, 2) := by decide +kernel
theorem d_K_quotientWithoutSign_16 : decode c_K_quotientWithoutSign 16 = .ok (.bipush 31, 2) := by decide +kernel
theorem d_K_quotientWithoutSign_18 : decode c_K_quotientWithoutSign 18 = .ok (.istore 9, 2) := by decide +kernel
theorem d_K_quotientWithoutSign_20 : decode c_K_quotientWithoutSign 20 = .ok (.iload 9, 2) := by decide +kernel
theorem d_K_quotientWithoutSign_22 : decode c_K_quotientWithoutSign 22 = .ok (.ifCond .lt 48, 3) := by decide +kernel
theorem d_K_quotientWithoutSign_25 : decode c_K_quotientWithoutSign 25 = .ok (.lload 5, 2) := by decide +kernel
theorem d_K_quotientWithoutSign_27 : decode c_K_quotientWithoutSign 27 = .ok (.iconst 1, 1) := by decide +kernel
theorem d_K_quotientWithoutSign_28 : decode c_K_quotientWithoutSign 28 = .ok (.lshl, 1) := by decide +kernel
theorem d_K_quotientWithoutSign_29 : decode c_K_quotientWithoutSign 29 = .ok (.iload_n 2, 1) := by decide +kernel
theorem d_K_quotientWithoutSign_30 : decode c_K_quotientWithoutSign 30 = .ok (.iload 9, 2) := by decide +kernel
theorem d_K_quotientWithoutSign_32 : decode c_K_quotientWithoutSign 32 = .ok (.iushr, 1) := by decide +kernel
theorem d_K_quotientWithoutSign_33 : decode c_K_quotientWithoutSign 33 = .ok (.iconst 1, 1) := by decide +kernel
theorem d_K_quotientWithoutSign_34 : decode c_K_quotientWithoutSign 34 = .ok (.iand, 1) := by decide +kernel
theorem d_K_quotientWithoutSign_35 : decode c_K_quotientWithoutSign 35 = .ok (.i2l, 1) := by decide +kernel
theorem d_K_quotientWithoutSign_36 : decode c_K_quotientWithoutSign 36 = .ok (.lor, 1) := by decide +kernel
theorem d_K_quotientWithoutSign_37 : decode c_K_quotientWithoutSign 37 = .ok (.lstore 5, 2) := by decide +kernel
theorem d_K_quotientWithoutSign_39 : decode c_K_quotientWithoutSign 39 = .ok (.lload 7, 2) := by decide +kernel
theorem d_K_quotientWithoutSign_41 : decode c_K_quotientWithoutSign 41 = .ok (.iconst 1, 1) := by decide +kernel
theorem d_K_quotientWithoutSign_42 : decode c_K_quotientWithoutSign 42 = .ok (.lshl, 1) := by decide +kernel
theorem d_K_quotientWithoutSign_43 : decode c_K_quotientWithoutSign 43 = .ok (.lstore 7, 2) := by decide +kernel
theorem d_K_quotientWithoutSign_45 : decode c_K_quotientWithoutSign 45 = .ok (.lload 5, 2) := by decide +kernel
theorem d_K_quotientWithoutSign_47 : decode c_K_quotientWithoutSign 47 = .ok (.lload_n 3, 1) := by decide +kernel
theorem d_K_quotientWithoutSign_48 : decode c_K_quotientWithoutSign 48 = .ok (.lcmp, 1) := by decide +kernel
theorem d_K_quotientWithoutSign_49 : decode c_K_quotientWithoutSign 49 = .ok (.ifCond .lt 15, 3) := by decide +kernel
theorem d_K_quotientWithoutSign_52 : decode c_K_quotientWithoutSign 52 = .ok (.lload 5, 2) := by decide +kernel
theorem d_K_quotientWithoutSign_54 : decode c_K_quotientWithoutSign 54 = .ok (.lload_n 3, 1) := by decide +kernel
theorem d_K_quotientWithoutSign_55 : decode c_K_quotientWithoutSign 55 = .ok (.lsub, 1) := by decide +kernel
theorem d_K_quotientWithoutSign_56 : decode c_K_quotientWithoutSign 56 = .ok (.lstore 5, 2) := by decide +kernel
theorem d_K_quotientWithoutSign_58 : decode c_K_quotientWithoutSign 58 = .ok (.lload 7, 2) := by decide +kernel
theorem d_K_quotientWithoutSign_60 : decode c_K_quotientWithoutSign 60 = .ok (.lconst 1, 1) := by decide +kernel
theorem d_K_quotientWithoutSign_61 : decode c_K_quotientWithoutSign 61 = .ok (.lor, 1) := by decide +kernel
theorem d_K_quotientWithoutSign_62 : decode c_K_quotientWithoutSign 62 = .ok (.lstore 7, 2) := by decide +kernel
theorem d_K_quotientWithoutSign_64 : decode c_K_quotientWithoutSign 64 = .ok (.iinc 9 (-1), 3) := by decide +kernel
theorem d_K_quotientWithoutSign_67 : decode c_K_quotientWithoutSign 67 = .ok (.goto (-47), 3) := by decide +kernel
theorem d_K_quotientWithoutSign_70 : decode c_K_quotientWithoutSign 70 = .ok (.lload 7, 2) := by decide +kernel
theorem d_K_quotientWithoutSign_72 : decode c_K_quotientWithoutSign 72 = .ok (.lreturn, 1) := by decide +kernel
theorem kd_K_quotientWithoutSign : (y_K_quotientWithoutSign).cls = "WindowMachine$Reckoner" ∧ (y_K_quotientWithoutSign).cls ≠ "java/lang/invoke/MethodHandle" ∧ (y_K_quotientWithoutSign).cls ≠ "java/lang/invoke/VarHandle" ∧ (parseMethodDescriptor (y_K_quotientWithoutSign).desc).map (fun d => d.parameters.length) = some 3 := by decide +kernel
def fl_K_quotientWithoutSign_20 (p0 : Int64) (p1 : Int32) (p2 : Int64) : Nat → Int64 → Int64 → Int32 → Int64
  | 0, _, _, _ => 0
  | n9 + 1, x_2, x_3, x_4 => (if x_4 < (0 : Int32) then x_3 else (let x_7 := (zlshl x_2 (1 : Int32)) ||| (((zushr p1 x_4) &&& (1 : Int32)).toInt64); (let x_8 := (if (lg_cmp x_7 p2) < (0 : Int32) then x_7 else x_7 - p2); (let x_9 := (if (lg_cmp x_7 p2) < (0 : Int32) then zlshl x_3 (1 : Int32) else (zlshl x_3 (1 : Int32)) ||| (1 : Int64)); fl_K_quotientWithoutSign_20 p0 p1 p2 n9 x_8 x_9 (x_4 + (-1 : Int32))))))
def f_quotientWithoutSign (p0 : Int64) (p1 : Int32) (p2 : Int64) : Int64 := (if (lg_cmp p0 p2) < (0 : Int32) then fl_K_quotientWithoutSign_20 p0 p1 p2 33 p0 (0 : Int64) (31 : Int32) else (4294967296 : Int64))
set_option maxHeartbeats 4000000 in
set_option maxRecDepth 100000 in
theorem mt_K_quotientWithoutSign (l : Launch) (D : va_G) (sz : Nat) (p0 : Int64) (p1 : Int32) (p2 : Int64) : Met l y_K_quotientWithoutSign w_K_quotientWithoutSign ({ frames := 0, cells := 0, slots := 0, locals := 0 }) (va_Pc [.long p0, .int p1, .long p2] (zw_pre D vwCl [] sz ([]) (fun _ => True))) (va_Ql (fun r (_ : Unit) => r = f_quotientWithoutSign p0 p1 p2) (fun u t => zw_at D vwCl (va_A ([]) sz) ((fun (_ : Unit) => []) u) t) (va_A ([]) sz)) 0 0 (va_A ([]) sz) := by
  refine zm (Qf := fun A => va_Ql (fun r (_ : Unit) => r = f_quotientWithoutSign p0 p1 p2) (fun u t => zw_at D vwCl A ((fun (_ : Unit) => []) u) t) A) (Zf := fun _ _ => True) (cc := c_K_quotientWithoutSign) (nL := 10) (ret := (some .long)) (by decide) rfl (Nat.le_of_ble_eq_true rfl) ?_
  intro p e s m below meth c9 A H locs ls hx hb hml hown hts hr hlocks hA hK hP hD hS hZ hl
  have hl : lv_has ls 10 [(0, .long p0), (2, .int p1), (3, .long p2)] := hl
  have ht : ∀ w9 ∈ zT, w9.before _ s = true := fun w9 h9 => hts w9 (List.mem_cons_of_mem _ h9)
  refine lv_lload_n hx hb d_K_quotientWithoutSign_0 rfl (lv_at hl 0 rfl) ?_
  refine lv_lload_n hx hb d_K_quotientWithoutSign_1 rfl (lv_at hl 2 rfl) ?_
  refine W.lcmp hx hb d_K_quotientWithoutSign_2 ?_
  refine lv_if_lt (tgt := 10) hx hb d_K_quotientWithoutSign_3 (by decide) (fun c_1 => ?_) (fun c_1 => ?_)
  · refine lv_lload_n hx hb d_K_quotientWithoutSign_10 rfl (lv_at hl 0 rfl) ?_
    refine lv_lstore (lv' := [(5, .long p0), (0, .long p0), (2, .int p1), (3, .long p2)]) hx hb d_K_quotientWithoutSign_11 hl (by decide) rfl (fun ls hl => ?_)
    refine lv_lconst (v := (0 : Int64)) hx hb d_K_quotientWithoutSign_13 (by decide) ?_
    refine lv_lstore (lv' := [(7, .long (0 : Int64)), (5, .long p0), (0, .long p0), (2, .int p1), (3, .long p2)]) hx hb d_K_quotientWithoutSign_14 hl (by decide) rfl (fun ls hl => ?_)
    refine lv_bipush (v := (31 : Int32)) hx hb d_K_quotientWithoutSign_16 (by decide) ?_
    refine lv_istore (lv' := [(9, .int (31 : Int32)), (7, .long (0 : Int64)), (5, .long p0), (0, .long p0), (2, .int p1), (3, .long p2)]) hx hb d_K_quotientWithoutSign_18 hl (by decide) rfl (fun ls hl => ?_)
    refine zloop (X := Int64 × Int64 × Int32) (G := fun n9 v9 H locs ls => f_quotientWithoutSign p0 p1 p2 = fl_K_quotientWithoutSign_20 p0 p1 p2 n9 v9.1 v9.2.1 v9.2.2 ∧ (v9.2.2.toInt + 2 = (n9 : Int) ∧ -1 ≤ v9.2.2.toInt ∧ v9.2.2.toInt ≤ 31) ∧ va_P D vwCl ([]) H ∧ va_D A ([]) ∧ va_S A s.heap H locs ∧ lv_has ls 10 [(0, .long p0), (2, .int p1), (3, .long p2), (5, .long v9.1), (7, .long v9.2.1), (9, .int v9.2.2)]) (fr := fun v9 ls => F0 m 20 ls []) (n := 33) (v := (p0, (0 : Int64), (31 : Int32))) (fun n9 ih v9 H locs ls hG => ?_) (fun v9 H locs ls hG => ?_) ⟨(by simp only [f_quotientWithoutSign, if_pos c_1]), (by dsimp only; decide), hP, hD, hS, (lv_sub hl [3, 4, 5, 2, 1, 0] rfl)⟩
    · obtain ⟨x_2, x_3, x_4⟩ := v9
      obtain ⟨hF_5, hI, hP, hD, hS, hl⟩ := hG
      dsimp only at hF_5 hI hP hD hl
      refine lv_iload hx hb d_K_quotientWithoutSign_20 (lv_at hl 5 rfl) ?_
      refine lv_if_lt (tgt := 70) hx hb d_K_quotientWithoutSign_22 (by decide) (fun c_6 => ?_) (fun c_6 => ?_)
      · refine lv_lload hx hb d_K_quotientWithoutSign_70 (lv_at hl 4 rfl) ?_
        exact zl_l (u := ()) hx hb hr hlocks hS hP hD (by rw [hF_5]; simp only [fl_K_quotientWithoutSign_20, if_pos c_6]) d_K_quotientWithoutSign_72
      refine lv_lload hx hb d_K_quotientWithoutSign_25 (lv_at hl 3 rfl) ?_
      refine lv_iconst (v := (1 : Int32)) hx hb d_K_quotientWithoutSign_27 (by decide) ?_
      refine lv_lshl (v := zlshl x_2 (1 : Int32)) hx hb d_K_quotientWithoutSign_28 rfl ?_
      refine lv_iload_n hx hb d_K_quotientWithoutSign_29 rfl (lv_at hl 1 rfl) ?_
      refine lv_iload hx hb d_K_quotientWithoutSign_30 (lv_at hl 5 rfl) ?_
      refine lv_iushr (v := zushr p1 x_4) hx hb d_K_quotientWithoutSign_32 rfl ?_
      refine lv_iconst (v := (1 : Int32)) hx hb d_K_quotientWithoutSign_33 (by decide) ?_
      refine lv_iand hx hb d_K_quotientWithoutSign_34 ?_
      refine lv_i2l (v := ((zushr p1 x_4) &&& (1 : Int32)).toInt64) hx hb d_K_quotientWithoutSign_35 rfl ?_
      refine lv_lor hx hb d_K_quotientWithoutSign_36 ?_
      refine lv_topl (fun x_7 ex_7 => ?_)
      refine lv_lstore (lv' := [(5, .long x_7), (0, .long p0), (2, .int p1), (3, .long p2), (7, .long x_3), (9, .int x_4)]) hx hb d_K_quotientWithoutSign_37 hl (by decide) rfl (fun ls hl => ?_)
      refine lv_lload hx hb d_K_quotientWithoutSign_39 (lv_at hl 4 rfl) ?_
      refine lv_iconst (v := (1 : Int32)) hx hb d_K_quotientWithoutSign_41 (by decide) ?_
      refine lv_lshl (v := zlshl x_3 (1 : Int32)) hx hb d_K_quotientWithoutSign_42 rfl ?_
      refine lv_lstore (lv' := [(7, .long (zlshl x_3 (1 : Int32))), (5, .long x_7), (0, .long p0), (2, .int p1), (3, .long p2), (9, .int x_4)]) hx hb d_K_quotientWithoutSign_43 hl (by decide) rfl (fun ls hl => ?_)
      refine lv_lload hx hb d_K_quotientWithoutSign_45 (lv_at hl 1 rfl) ?_
      refine lv_lload_n hx hb d_K_quotientWithoutSign_47 rfl (lv_at hl 4 rfl) ?_
      refine W.lcmp hx hb d_K_quotientWithoutSign_48 ?_
      refine zcut (X := Int64 × Int64) (G := fun v9 H locs ls => v9.1 = (if (lg_cmp x_7 p2) < (0 : Int32) then x_7 else x_7 - p2) ∧ v9.2 = (if (lg_cmp x_7 p2) < (0 : Int32) then zlshl x_3 (1 : Int32) else (zlshl x_3 (1 : Int32)) ||| (1 : Int64)) ∧ va_P D vwCl ([]) H ∧ va_D A ([]) ∧ va_S A s.heap H locs ∧ lv_has ls 10 [(0, .long p0), (2, .int p1), (3, .long p2), (5, .long v9.1), (7, .long v9.2), (9, .int x_4)]) (fr := fun v9 ls => F0 m 64 ls []) (fun J_10 => ?_) (fun v9 H locs ls hG => ?_)
      · refine lv_if_lt (tgt := 64) hx hb d_K_quotientWithoutSign_49 (by decide) (fun c_11 => ?_) (fun c_11 => ?_)
        · exact J_10 (x_7, zlshl x_3 (1 : Int32)) _ _ _ ⟨by simp only [if_pos c_11], by simp only [if_pos c_11], hP, hD, hS, (lv_sub hl [2, 3, 4, 1, 0, 5] rfl)⟩
        refine lv_lload hx hb d_K_quotientWithoutSign_52 (lv_at hl 1 rfl) ?_
        refine lv_lload_n hx hb d_K_quotientWithoutSign_54 rfl (lv_at hl 4 rfl) ?_
        refine lv_lsub hx hb d_K_quotientWithoutSign_55 ?_
        refine lv_lstore (lv' := [(5, .long (x_7 - p2)), (7, .long (zlshl x_3 (1 : Int32))), (0, .long p0), (2, .int p1), (3, .long p2), (9, .int x_4)]) hx hb d_K_quotientWithoutSign_56 hl (by decide) rfl (fun ls hl => ?_)
        refine lv_lload hx hb d_K_quotientWithoutSign_58 (lv_at hl 1 rfl) ?_
        refine lv_lconst (v := (1 : Int64)) hx hb d_K_quotientWithoutSign_60 (by decide) ?_
        refine lv_lor hx hb d_K_quotientWithoutSign_61 ?_
        refine lv_lstore (lv' := [(7, .long ((zlshl x_3 (1 : Int32)) ||| (1 : Int64))), (5, .long (x_7 - p2)), (0, .long p0), (2, .int p1), (3, .long p2), (9, .int x_4)]) hx hb d_K_quotientWithoutSign_62 hl (by decide) rfl (fun ls hl => ?_)
        exact J_10 (x_7 - p2, (zlshl x_3 (1 : Int32)) ||| (1 : Int64)) _ _ _ ⟨by simp only [if_neg c_11], by simp only [if_neg c_11], hP, hD, hS, (lv_sub hl [2, 3, 4, 1, 0, 5] rfl)⟩
      obtain ⟨x_8, x_9⟩ := v9
      obtain ⟨ex_8, ex_9, hP, hD, hS, hl⟩ := hG
      have ex_8 : x_8 = _ := ex_8
      have ex_9 : x_9 = _ := ex_9
      refine lv_iinc (v := x_4 + (-1 : Int32)) (lv' := [(9, .int (x_4 + (-1 : Int32))), (0, .long p0), (2, .int p1), (3, .long p2), (5, .long x_8), (7, .long x_9)]) hx hb d_K_quotientWithoutSign_64 hl (k := 5) rfl rfl (by decide) rfl (fun ls hl => ?_)
      refine lv_goto (tgt := 20) hx hb d_K_quotientWithoutSign_67 (by decide) ?_
      exact ih (x_8, x_9, x_4 + (-1 : Int32)) _ _ _ ⟨by subst ex_7; subst ex_8; subst ex_9; rw [hF_5]; simp only [fl_K_quotientWithoutSign_20, if_neg c_6], (qw_back hI c_6), hP, hD, hS, (lv_sub hl [1, 2, 3, 4, 5, 0] rfl)⟩
    · obtain ⟨x_2, x_3, x_4⟩ := v9
      obtain ⟨-, hI, -⟩ := hG
      dsimp only at hI
      exact (by omega)
  refine lv_ldc2 (v := (4294967296 : Int64)) hx hb hown (ht _ zw_610) d_K_quotientWithoutSign_6 ?_
  exact zl_l (u := ()) hx hb hr hlocks hS hP hD (by simp only [f_quotientWithoutSign, if_neg c_1]) d_K_quotientWithoutSign_9
theorem d_K_reckon_0 : decode c_K_reckon 0 = .ok (.iload_n 1, 1) := by decide +kernel
theorem d_K_reckon_1 : decode c_K_reckon 1 = .ok (.tableswitch 253 1 15 #[75, 85, 95, 105, 115, 127, 139, 151, 253, 162, 182, 194, 253, 205, 233], 75) := by decide +kernel
theorem d_K_reckon_76 : decode c_K_reckon 76 = .ok (.aload_n 0, 1) := by decide +kernel
theorem d_K_reckon_77 : decode c_K_reckon 77 = .ok (.iload_n 2, 1) := by decide +kernel
theorem d_K_reckon_78 : decode c_K_reckon 78 = .ok (.iload_n 3, 1) := by decide +kernel
theorem d_K_reckon_79 : decode c_K_reckon 79 = .ok (.iand, 1) := by decide +kernel
theorem d_K_reckon_80 : decode c_K_reckon 80 = .ok (.invokevirtual 7, 3) := by decide +kernel
theorem d_K_reckon_83 : decode c_K_reckon 83 = .ok (.goto 178, 3) := by decide +kernel
theorem d_K_reckon_86 : decode c_K_reckon 86 = .ok (.aload_n 0, 1) := by decide +kernel
theorem d_K_reckon_87 : decode c_K_reckon 87 = .ok (.iload_n 2, 1) := by decide +kernel
theorem d_K_reckon_88 : decode c_K_reckon 88 = .ok (.iload_n 3, 1) := by decide +kernel
theorem d_K_reckon_89 : decode c_K_reckon 89 = .ok (.ior, 1) := by decide +kernel
theorem d_K_reckon_90 : decode c_K_reckon 90 = .ok (.invokevirtual 7, 3) := by decide +kernel
theorem d_K_reckon_93 : decode c_K_reckon 93 = .ok (.goto 168, 3) := by decide +kernel
theorem d_K_reckon_96 : decode c_K_reckon 96 = .ok (.aload_n 0, 1) := by decide +kernel
theorem d_K_reckon_97 : decode c_K_reckon 97 = .ok (.iload_n 2, 1) := by decide +kernel
theorem d_K_reckon_98 : decode c_K_reckon 98 = .ok (.iload_n 3, 1) := by decide +kernel
theorem d_K_reckon_99 : decode c_K_reckon 99 = .ok (.ixor, 1) := by decide +kernel
theorem d_K_reckon_100 : decode c_K_reckon 100 = .ok (.invokevirtual 7, 3) := by decide +kernel
theorem d_K_reckon_103 : decode c_K_reckon 103 = .ok (.goto 158, 3) := by decide +kernel
theorem d_K_reckon_106 : decode c_K_reckon 106 = .ok (.aload_n 0, 1) := by decide +kernel
theorem d_K_reckon_107 : decode c_K_reckon 107 = .ok (.iload_n 2, 1) := by decide +kernel
theorem d_K_reckon_108 : decode c_K_reckon 108 = .ok (.iload_n 3, 1) := by decide +kernel
theorem d_K_reckon_109 : decode c_K_reckon 109 = .ok (.iconst 0, 1) := by decide +kernel
theorem d_K_reckon_110 : decode c_K_reckon 110 = .ok (.invokevirtual 13, 3) := by decide +kernel
theorem d_K_reckon_113 : decode c_K_reckon 113 = .ok (.goto 148, 3) := by decide +kernel
theorem d_K_reckon_116 : decode c_K_reckon 116 = .ok (.aload_n 0, 1) := by decide +kernel
theorem d_K_reckon_117 : decode c_K_reckon 117 = .ok (.iload_n 2, 1) := by decide +kernel
theorem d_K_reckon_118 : decode c_K_reckon 118 = .ok (.iload_n 3, 1) := by decide +kernel
theorem d_K_reckon_119 : decode c_K_reckon 119 = .ok (.iconst (-1), 1) := by decide +kernel
theorem d_K_reckon_120 : decode c_K_reckon 120 = .ok (.ixor, 1) := by decide +kernel
theorem d_K_reckon_121 : decode c_K_reckon 121 = .ok (.iand, 1) := by decide +kernel
theorem d_K_reckon_122 : decode c_K_reckon 122 = .ok (.invokevirtual 7, 3) := by decide +kernel
theorem d_K_reckon_125 : decode c_K_reckon 125 = .ok (.goto 136, 3) := by decide +kernel
theorem d_K_reckon_128 : decode c_K_reckon 128 = .ok (.aload_n 0, 1) := by decide +kernel
theorem d_K_reckon_129 : decode c_K_reckon 129 = .ok (.iload_n 2, 1) := by decide +kernel
theorem d_K_reckon_130 : decode c_K_reckon 130 = .ok (.iload_n 3, 1) := by decide +kernel
theorem d_K_reckon_131 : decode c_K_reckon 131 = .ok (.iconst (-1), 1) := by decide +kernel
theorem d_K_reckon_132 : decode c_K_reckon 132 = .ok (.ixor, 1) := by decide +kernel
theorem d_K_reckon_133 : decode c_K_reckon 133 = .ok (.ior, 1) := by decide +kernel
theorem d_K_reckon_134 : decode c_K_reckon 134 = .ok (.invokevirtual 7, 3) := by decide +kernel
theorem d_K_reckon_137 : decode c_K_reckon 137 = .ok (.goto 124, 3) := by decide +kernel
theorem d_K_reckon_140 : decode c_K_reckon 140 = .ok (.aload_n 0, 1) := by decide +kernel
theorem d_K_reckon_141 : decode c_K_reckon 141 = .ok (.iload_n 2, 1) := by decide +kernel
theorem d_K_reckon_142 : decode c_K_reckon 142 = .ok (.iload_n 3, 1) := by decide +kernel
theorem d_K_reckon_143 : decode c_K_reckon 143 = .ok (.ixor, 1) := by decide +kernel
theorem d_K_reckon_144 : decode c_K_reckon 144 = .ok (.iconst (-1), 1) := by decide +kernel
theorem d_K_reckon_145 : decode c_K_reckon 145 = .ok (.ixor, 1) := by decide +kernel
theorem d_K_reckon_146 : decode c_K_reckon 146 = .ok (.invokevirtual 7, 3) := by decide +kernel
theorem d_K_reckon_149 : decode c_K_reckon 149 = .ok (.goto 112, 3) := by decide +kernel
theorem d_K_reckon_152 : decode c_K_reckon 152 = .ok (.aload_n 0, 1) := by decide +kernel
theorem d_K_reckon_153 : decode c_K_reckon 153 = .ok (.iload_n 2, 1) := by decide +kernel
theorem d_K_reckon_154 : decode c_K_reckon 154 = .ok (.iload_n 3, 1) := by decide +kernel
theorem d_K_reckon_155 : decode c_K_reckon 155 = .ok (.iload 4, 2) := by decide +kernel
theorem d_K_reckon_157 : decode c_K_reckon 157 = .ok (.invokevirtual 17, 3) := by decide +kernel
theorem d_K_reckon_160 : decode c_K_reckon 160 = .ok (.goto 101, 3) := by decide +kernel
theorem d_K_reckon_163 : decode c_K_reckon 163 = .ok (.aload_n 0, 1) := by decide +kernel
theorem d_K_reckon_164 : decode c_K_reckon 164 = .ok (.iload_n 2, 1) := by decide +kernel
theorem d_K_reckon_165 : decode c_K_reckon 165 = .ok (.i2l, 1) := by decide +kernel
theorem d_K_reckon_166 : decode c_K_reckon 166 = .ok (.ldc2_w 20, 3) := by decide +kernel
theorem d_K_reckon_169 : decode c_K_reckon 169 = .ok (.land, 1) := by decide +kernel
theorem d_K_reckon_170 : decode c_K_reckon 170 = .ok (.iload_n 3, 1) := by decide +kernel
theorem d_K_reckon_171 : decode c_K_reckon 171 = .ok (.i2l, 1) := by decide +kernel
theorem d_K_reckon_172 : decode c_K_reckon 172 = .ok (.ldc2_w 20, 3) := by decide +kernel
theorem d_K_reckon_175 : decode c_K_reckon 175 = .ok (.land, 1) := by decide +kernel
theorem d_K_reckon_176 : decode c_K_reckon 176 = .ok (.lmul, 1) := by decide +kernel
theorem d_K_reckon_177 : decode c_K_reckon 177 = .ok (.invokevirtual 22, 3) := by decide +kernel
theorem d_K_reckon_180 : decode c_K_reckon 180 = .ok (.goto 81, 3) := by decide +kernel
theorem d_K_reckon_183 : decode c_K_reckon 183 = .ok (.aload_n 0, 1) := by decide +kernel
theorem d_K_reckon_184 : decode c_K_reckon 184 = .ok (.iload_n 2, 1) := by decide +kernel
theorem d_K_reckon_185 : decode c_K_reckon 185 = .ok (.i2l, 1) := by decide +kernel
theorem d_K_reckon_186 : decode c_K_reckon 186 = .ok (.iload_n 3, 1) := by decide +kernel
theorem d_K_reckon_187 : decode c_K_reckon 187 = .ok (.i2l, 1) := by decide +kernel
theorem d_K_reckon_188 : decode c_K_reckon 188 = .ok (.lmul, 1) := by decide +kernel
theorem d_K_reckon_189 : decode c_K_reckon 189 = .ok (.invokevirtual 22, 3) := by decide +kernel
theorem d_K_reckon_192 : decode c_K_reckon 192 = .ok (.goto 69, 3) := by decide +kernel
theorem d_K_reckon_195 : decode c_K_reckon 195 = .ok (.aload_n 0, 1) := by decide +kernel
theorem d_K_reckon_196 : decode c_K_reckon 196 = .ok (.iload_n 2, 1) := by decide +kernel
theorem d_K_reckon_197 : decode c_K_reckon 197 = .ok (.iload_n 3, 1) := by decide +kernel
theorem d_K_reckon_198 : decode c_K_reckon 198 = .ok (.iload 4, 2) := by decide +kernel
theorem d_K_reckon_200 : decode c_K_reckon 200 = .ok (.invokevirtual 13, 3) := by decide +kernel
theorem d_K_reckon_203 : decode c_K_reckon 203 = .ok (.goto 58, 3) := by decide +kernel
theorem d_K_reckon_206 : decode c_K_reckon 206 = .ok (.aload_n 0, 1) := by decide +kernel
theorem d_K_reckon_207 : decode c_K_reckon 207 = .ok (.iload 5, 2) := by decide +kernel
theorem d_K_reckon_209 : decode c_K_reckon 209 = .ok (.i2l, 1) := by decide +kernel
theorem d_K_reckon_210 : decode c_K_reckon 210 = .ok (.ldc2_w 20, 3) := by decide +kernel
theorem d_K_reckon_213 : decode c_K_reckon 213 = .ok (.land, 1) := by decide +kernel
theorem d_K_reckon_214 : decode c_K_reckon 214 = .ok (.iload_n 2, 1) := by decide +kernel
theorem d_K_reckon_215 : decode c_K_reckon 215 = .ok (.iload_n 3, 1) := by decide +kernel
theorem d_K_reckon_216 : decode c_K_reckon 216 = .ok (.i2l, 1) := by decide +kernel
theorem d_K_reckon_217 : decode c_K_reckon 217 = .ok (.ldc2_w 20, 3) := by decide +kernel
theorem d_K_reckon_220 : decode c_K_reckon 220 = .ok (.land, 1) := by decide +kernel
theorem d_K_reckon_221 : decode c_K_reckon 221 = .ok (.invokestatic 26, 3) := by decide +kernel
theorem d_K_reckon_224 : decode c_K_reckon 224 = .ok (.lconst 0, 1) := by decide +kernel
theorem d_K_reckon_225 : decode c_K_reckon 225 = .ok (.ldc2_w 20, 3) := by decide +kernel
theorem d_K_reckon_228 : decode c_K_reckon 228 = .ok (.invokevirtual 30, 3) := by decide +kernel
theorem d_K_reckon_231 : decode c_K_reckon 231 = .ok (.goto 30, 3) := by decide +kernel
theorem d_K_reckon_234 : decode c_K_reckon 234 = .ok (.aload_n 0, 1) := by decide +kernel
theorem d_K_reckon_235 : decode c_K_reckon 235 = .ok (.iload 5, 2) := by decide +kernel
theorem d_K_reckon_237 : decode c_K_reckon 237 = .ok (.iload_n 2, 1) := by decide +kernel
theorem d_K_reckon_238 : decode c_K_reckon 238 = .ok (.iload_n 3, 1) := by decide +kernel
theorem d_K_reckon_239 : decode c_K_reckon 239 = .ok (.invokestatic 34, 3) := by decide +kernel
theorem d_K_reckon_242 : decode c_K_reckon 242 = .ok (.ldc2_w 38, 3) := by decide +kernel
theorem d_K_reckon_245 : decode c_K_reckon 245 = .ok (.ldc2_w 40, 3) := by decide +kernel
theorem d_K_reckon_248 : decode c_K_reckon 248 = .ok (.invokevirtual 30, 3) := by decide +kernel
theorem d_K_reckon_251 : decode c_K_reckon 251 = .ok (.goto 10, 3) := by decide +kernel
theorem d_K_reckon_254 : decode c_K_reckon 254 = .ok (.aload_n 0, 1) := by decide +kernel
theorem d_K_reckon_255 : decode c_K_reckon 255 = .ok (.iload_n 2, 1) := by decide +kernel
theorem d_K_reckon_256 : decode c_K_reckon 256 = .ok (.iload_n 3, 1) := by decide +kernel
theorem d_K_reckon_257 : decode c_K_reckon 257 = .ok (.iconst 0, 1) := by decide +kernel
theorem d_K_reckon_258 : decode c_K_reckon 258 = .ok (.invokevirtual 17, 3) := by decide +kernel
theorem d_K_reckon_261 : decode c_K_reckon 261 = .ok (.return_, 1) := by decide +kernel
theorem kd_K_reckon : (y_K_reckon).cls = "WindowMachine$Reckoner" ∧ (y_K_reckon).cls ≠ "java/lang/invoke/MethodHandle" ∧ (y_K_reckon).cls ≠ "java/lang/invoke/VarHandle" ∧ (parseMethodDescriptor (y_K_reckon).desc).map (fun d => d.parameters.length) = some 5 := by decide +kernel
def f_reckon (st : Nat → Int32) (p0 : Int32) (p1 : Int32) (p2 : Int32) (p3 : Int32) (p4 : Int32) : Nat → Int32 := (let u_1 := (if p0 = (1 : Int32) then f_take st (p1 &&& p2) else (if p0 = (2 : Int32) then f_take st (p1 ||| p2) else (if p0 = (3 : Int32) then f_take st (p1 ^^^ p2) else (if p0 = (4 : Int32) then f_subtract st p1 p2 (0 : Int32) else (if p0 = (5 : Int32) then f_take st (p1 &&& (p2 ^^^ (-1 : Int32))) else (if p0 = (6 : Int32) then f_take st (p1 ||| (p2 ^^^ (-1 : Int32))) else (if p0 = (7 : Int32) then f_take st ((p1 ^^^ p2) ^^^ (-1 : Int32)) else (if p0 = (8 : Int32) then f_kadd st p1 p2 p3 else (if p0 = (10 : Int32) then f_takeProduct st ((p1.toInt64 &&& (4294967295 : Int64)) * (p2.toInt64 &&& (4294967295 : Int64))) else (if p0 = (11 : Int32) then f_takeProduct st (p1.toInt64 * p2.toInt64) else (if p0 = (12 : Int32) then f_subtract st p1 p2 p3 else (if p0 = (14 : Int32) then f_takeQuotient st (f_quotientWithoutSign (p4.toInt64 &&& (4294967295 : Int64)) p1 (p2.toInt64 &&& (4294967295 : Int64))) (0 : Int64) (4294967295 : Int64) else (if p0 = (15 : Int32) then f_takeQuotient st (f_quotientWithSign p4 p1 p2) (-2147483648 : Int64) (2147483647 : Int64) else f_kadd st p1 p2 (0 : Int32)))))))))))))); u_1)
set_option maxHeartbeats 4000000 in
set_option maxRecDepth 100000 in
theorem mt_K_reckon (l : Launch) (D : va_G) (a : Nat) (sz : Nat) (st : Nat → Int32) (p0 : Int32) (p1 : Int32) (p2 : Int32) (p3 : Int32) (p4 : Int32) : Met l y_K_reckon w_K_reckon ({ frames := 2, cells := 0, slots := 0, locals := 49 }) (va_Pc [.ref a, .int p0, .int p1, .int p2, .int p3, .int p4] (zw_pre D vwCl [] sz (wK a st) (fun _ => True))) (va_Qv (fun (u : Nat → Int32) => u = f_reckon st p0 p1 p2 p3 p4) (fun u t => zw_at D vwCl (va_A (wK a st) sz) ((fun (u : Nat → Int32) => wK a u) u) t) (va_A (wK a st) sz)) 0 0 (va_A (wK a st) sz) := by
  refine zm (Qf := fun A => va_Qv (fun (u : Nat → Int32) => u = f_reckon st p0 p1 p2 p3 p4) (fun u t => zw_at D vwCl A ((fun (u : Nat → Int32) => wK a u) u) t) A) (Zf := fun _ _ => True) (cc := c_K_reckon) (nL := 6) (ret := none) (by decide) rfl (Nat.le_of_ble_eq_true rfl) ?_
  intro p e s m below meth c9 A H locs ls hx hb hml hown hts hr hlocks hA hK hP hD hS hZ hl
  have hl : lv_has ls 6 [(0, .ref a), (1, .int p0), (2, .int p1), (3, .int p2), (4, .int p3), (5, .int p4)] := hl
  have ht : ∀ w9 ∈ zT, w9.before _ s = true := fun w9 h9 => hts w9 (List.mem_cons_of_mem _ h9)
  refine lv_iload_n hx hb d_K_reckon_0 rfl (lv_at hl 1 rfl) ?_
  refine zcut (X := (Nat → Int32)) (G := fun v9 H locs ls => v9 = (if p0 = (1 : Int32) then f_take st (p1 &&& p2) else (if p0 = (2 : Int32) then f_take st (p1 ||| p2) else (if p0 = (3 : Int32) then f_take st (p1 ^^^ p2) else (if p0 = (4 : Int32) then f_subtract st p1 p2 (0 : Int32) else (if p0 = (5 : Int32) then f_take st (p1 &&& (p2 ^^^ (-1 : Int32))) else (if p0 = (6 : Int32) then f_take st (p1 ||| (p2 ^^^ (-1 : Int32))) else (if p0 = (7 : Int32) then f_take st ((p1 ^^^ p2) ^^^ (-1 : Int32)) else (if p0 = (8 : Int32) then f_kadd st p1 p2 p3 else (if p0 = (10 : Int32) then f_takeProduct st ((p1.toInt64 &&& (4294967295 : Int64)) * (p2.toInt64 &&& (4294967295 : Int64))) else (if p0 = (11 : Int32) then f_takeProduct st (p1.toInt64 * p2.toInt64) else (if p0 = (12 : Int32) then f_subtract st p1 p2 p3 else (if p0 = (14 : Int32) then f_takeQuotient st (f_quotientWithoutSign (p4.toInt64 &&& (4294967295 : Int64)) p1 (p2.toInt64 &&& (4294967295 : Int64))) (0 : Int64) (4294967295 : Int64) else (if p0 = (15 : Int32) then f_takeQuotient st (f_quotientWithSign p4 p1 p2) (-2147483648 : Int64) (2147483647 : Int64) else f_kadd st p1 p2 (0 : Int32)))))))))))))) ∧ va_P D vwCl (wK a v9) H ∧ va_D A (wK a v9) ∧ va_S A s.heap H locs ∧ lv_has ls 6 [(0, .ref a), (1, .int p0), (2, .int p1), (3, .int p2), (4, .int p3), (5, .int p4)]) (fr := fun v9 ls => F0 m 261 ls []) (fun J_2 => ?_) (fun v9 H locs ls hG => ?_)
  · by_cases c_4 : p0 = (1 : Int32)
    · refine lv_tableIn (tgt := 76) hx hb d_K_reckon_1 (by rw [c_4]; decide) (by rw [c_4]; decide) (by rw [c_4]; rfl) (by decide) ?_
      refine lv_aload_n hx hb d_K_reckon_76 rfl (lv_at hl 0 rfl) ?_
      refine lv_iload_n hx hb d_K_reckon_77 rfl (lv_at hl 2 rfl) ?_
      refine lv_iload_n hx hb d_K_reckon_78 rfl (lv_at hl 3 rfl) ?_
      refine lv_iand hx hb d_K_reckon_79 ?_
      refine zc_v (w2 := fun u9 => wK a u9) (va_runV (As := [.int (p1 &&& p2)]) (rest := []) ⟨hx, hb, hml, hown, ht⟩ (mt_K_take l D a H.size st (p1 &&& p2)) (cwV 1 ht (zgV zw_590 zw_592 zs_31 zw_6 zw_593) rfl rfl rfl kd_K_take ⟨Nat.le_of_ble_eq_true rfl, Nat.le_of_ble_eq_true rfl⟩) ⟨zw_blind zw_tt, va_recv (hK.sub (tys' := []) [] rfl) (hP.sub (ws' := wK a st) [0] rfl) (ci := 3) (q0 := 0) rfl rfl, zw_go (hP.sub (ws' := wK a st) [0] rfl) (hD.sub (ws' := wK a st) [0] (by decide) rfl) (hK.sub (tys' := []) [] rfl) (fun _ _ _ => trivial)⟩ rfl rfl hl.1 rfl (lv_room (Nat.le_of_ble_eq_true rfl)) d_K_reckon_80 ⟨Nat.le_of_ble_eq_true rfl, Nat.le_of_ble_eq_true rfl⟩) hP hD hS hA [0] [] [0] rfl rfl (by decide) (by decide) (by decide) (fun _ => rfl) (fun u_5 H locs hw hP hD hS => ?_)
      subst hw
      refine lv_goto (tgt := 261) hx hb d_K_reckon_83 (by decide) ?_
      exact J_2 (f_take st (p1 &&& p2)) _ _ _ ⟨by simp only [if_pos c_4], hP, hD, hS, hl⟩
    by_cases c_6 : p0 = (2 : Int32)
    · refine lv_tableIn (tgt := 86) hx hb d_K_reckon_1 (by rw [c_6]; decide) (by rw [c_6]; decide) (by rw [c_6]; rfl) (by decide) ?_
      refine lv_aload_n hx hb d_K_reckon_86 rfl (lv_at hl 0 rfl) ?_
      refine lv_iload_n hx hb d_K_reckon_87 rfl (lv_at hl 2 rfl) ?_
      refine lv_iload_n hx hb d_K_reckon_88 rfl (lv_at hl 3 rfl) ?_
      refine lv_ior hx hb d_K_reckon_89 ?_
      refine zc_v (w2 := fun u9 => wK a u9) (va_runV (As := [.int (p1 ||| p2)]) (rest := []) ⟨hx, hb, hml, hown, ht⟩ (mt_K_take l D a H.size st (p1 ||| p2)) (cwV 1 ht (zgV zw_590 zw_592 zs_31 zw_6 zw_593) rfl rfl rfl kd_K_take ⟨Nat.le_of_ble_eq_true rfl, Nat.le_of_ble_eq_true rfl⟩) ⟨zw_blind zw_tt, va_recv (hK.sub (tys' := []) [] rfl) (hP.sub (ws' := wK a st) [0] rfl) (ci := 3) (q0 := 0) rfl rfl, zw_go (hP.sub (ws' := wK a st) [0] rfl) (hD.sub (ws' := wK a st) [0] (by decide) rfl) (hK.sub (tys' := []) [] rfl) (fun _ _ _ => trivial)⟩ rfl rfl hl.1 rfl (lv_room (Nat.le_of_ble_eq_true rfl)) d_K_reckon_90 ⟨Nat.le_of_ble_eq_true rfl, Nat.le_of_ble_eq_true rfl⟩) hP hD hS hA [0] [] [0] rfl rfl (by decide) (by decide) (by decide) (fun _ => rfl) (fun u_7 H locs hw hP hD hS => ?_)
      subst hw
      refine lv_goto (tgt := 261) hx hb d_K_reckon_93 (by decide) ?_
      exact J_2 (f_take st (p1 ||| p2)) _ _ _ ⟨by simp only [if_neg c_4, if_pos c_6], hP, hD, hS, hl⟩
    by_cases c_8 : p0 = (3 : Int32)
    · refine lv_tableIn (tgt := 96) hx hb d_K_reckon_1 (by rw [c_8]; decide) (by rw [c_8]; decide) (by rw [c_8]; rfl) (by decide) ?_
      refine lv_aload_n hx hb d_K_reckon_96 rfl (lv_at hl 0 rfl) ?_
      refine lv_iload_n hx hb d_K_reckon_97 rfl (lv_at hl 2 rfl) ?_
      refine lv_iload_n hx hb d_K_reckon_98 rfl (lv_at hl 3 rfl) ?_
      refine lv_ixor hx hb d_K_reckon_99 ?_
      refine zc_v (w2 := fun u9 => wK a u9) (va_runV (As := [.int (p1 ^^^ p2)]) (rest := []) ⟨hx, hb, hml, hown, ht⟩ (mt_K_take l D a H.size st (p1 ^^^ p2)) (cwV 1 ht (zgV zw_590 zw_592 zs_31 zw_6 zw_593) rfl rfl rfl kd_K_take ⟨Nat.le_of_ble_eq_true rfl, Nat.le_of_ble_eq_true rfl⟩) ⟨zw_blind zw_tt, va_recv (hK.sub (tys' := []) [] rfl) (hP.sub (ws' := wK a st) [0] rfl) (ci := 3) (q0 := 0) rfl rfl, zw_go (hP.sub (ws' := wK a st) [0] rfl) (hD.sub (ws' := wK a st) [0] (by decide) rfl) (hK.sub (tys' := []) [] rfl) (fun _ _ _ => trivial)⟩ rfl rfl hl.1 rfl (lv_room (Nat.le_of_ble_eq_true rfl)) d_K_reckon_100 ⟨Nat.le_of_ble_eq_true rfl, Nat.le_of_ble_eq_true rfl⟩) hP hD hS hA [0] [] [0] rfl rfl (by decide) (by decide) (by decide) (fun _ => rfl) (fun u_9 H locs hw hP hD hS => ?_)
      subst hw
      refine lv_goto (tgt := 261) hx hb d_K_reckon_103 (by decide) ?_
      exact J_2 (f_take st (p1 ^^^ p2)) _ _ _ ⟨by simp only [if_neg c_4, if_neg c_6, if_pos c_8], hP, hD, hS, hl⟩
    by_cases c_10 : p0 = (4 : Int32)
    · refine lv_tableIn (tgt := 106) hx hb d_K_reckon_1 (by rw [c_10]; decide) (by rw [c_10]; decide) (by rw [c_10]; rfl) (by decide) ?_
      refine lv_aload_n hx hb d_K_reckon_106 rfl (lv_at hl 0 rfl) ?_
      refine lv_iload_n hx hb d_K_reckon_107 rfl (lv_at hl 2 rfl) ?_
      refine lv_iload_n hx hb d_K_reckon_108 rfl (lv_at hl 3 rfl) ?_
      refine lv_iconst (v := (0 : Int32)) hx hb d_K_reckon_109 (by decide) ?_
      refine zc_v (w2 := fun u9 => wK a u9) (va_runV (As := [.int p1, .int p2, .int (0 : Int32)]) (rest := []) ⟨hx, hb, hml, hown, ht⟩ (mt_K_subtract l D a H.size st p1 p2 (0 : Int32)) (cwV 3 ht (zgV zw_594 zw_596 zs_32 zw_6 zw_597) rfl rfl rfl kd_K_subtract ⟨Nat.le_of_ble_eq_true rfl, Nat.le_of_ble_eq_true rfl⟩) ⟨zw_blind zw_tt, va_recv (hK.sub (tys' := []) [] rfl) (hP.sub (ws' := wK a st) [0] rfl) (ci := 3) (q0 := 0) rfl rfl, zw_go (hP.sub (ws' := wK a st) [0] rfl) (hD.sub (ws' := wK a st) [0] (by decide) rfl) (hK.sub (tys' := []) [] rfl) (fun _ _ _ => trivial)⟩ rfl rfl hl.1 rfl (lv_room (Nat.le_of_ble_eq_true rfl)) d_K_reckon_110 ⟨Nat.le_of_ble_eq_true rfl, Nat.le_of_ble_eq_true rfl⟩) hP hD hS hA [0] [] [0] rfl rfl (by decide) (by decide) (by decide) (fun _ => rfl) (fun u_11 H locs hw hP hD hS => ?_)
      subst hw
      refine lv_goto (tgt := 261) hx hb d_K_reckon_113 (by decide) ?_
      exact J_2 (f_subtract st p1 p2 (0 : Int32)) _ _ _ ⟨by simp only [if_neg c_4, if_neg c_6, if_neg c_8, if_pos c_10], hP, hD, hS, hl⟩
    by_cases c_12 : p0 = (5 : Int32)
    · refine lv_tableIn (tgt := 116) hx hb d_K_reckon_1 (by rw [c_12]; decide) (by rw [c_12]; decide) (by rw [c_12]; rfl) (by decide) ?_
      refine lv_aload_n hx hb d_K_reckon_116 rfl (lv_at hl 0 rfl) ?_
      refine lv_iload_n hx hb d_K_reckon_117 rfl (lv_at hl 2 rfl) ?_
      refine lv_iload_n hx hb d_K_reckon_118 rfl (lv_at hl 3 rfl) ?_
      refine lv_iconst (v := (-1 : Int32)) hx hb d_K_reckon_119 (by decide) ?_
      refine lv_ixor hx hb d_K_reckon_120 ?_
      refine lv_iand hx hb d_K_reckon_121 ?_
      refine zc_v (w2 := fun u9 => wK a u9) (va_runV (As := [.int (p1 &&& (p2 ^^^ (-1 : Int32)))]) (rest := []) ⟨hx, hb, hml, hown, ht⟩ (mt_K_take l D a H.size st (p1 &&& (p2 ^^^ (-1 : Int32)))) (cwV 1 ht (zgV zw_590 zw_592 zs_31 zw_6 zw_593) rfl rfl rfl kd_K_take ⟨Nat.le_of_ble_eq_true rfl, Nat.le_of_ble_eq_true rfl⟩) ⟨zw_blind zw_tt, va_recv (hK.sub (tys' := []) [] rfl) (hP.sub (ws' := wK a st) [0] rfl) (ci := 3) (q0 := 0) rfl rfl, zw_go (hP.sub (ws' := wK a st) [0] rfl) (hD.sub (ws' := wK a st) [0] (by decide) rfl) (hK.sub (tys' := []) [] rfl) (fun _ _ _ => trivial)⟩ rfl rfl hl.1 rfl (lv_room (Nat.le_of_ble_eq_true rfl)) d_K_reckon_122 ⟨Nat.le_of_ble_eq_true rfl, Nat.le_of_ble_eq_true rfl⟩) hP hD hS hA [0] [] [0] rfl rfl (by decide) (by decide) (by decide) (fun _ => rfl) (fun u_13 H locs hw hP hD hS => ?_)
      subst hw
      refine lv_goto (tgt := 261) hx hb d_K_reckon_125 (by decide) ?_
      exact J_2 (f_take st (p1 &&& (p2 ^^^ (-1 : Int32)))) _ _ _ ⟨by simp only [if_neg c_4, if_neg c_6, if_neg c_8, if_neg c_10, if_pos c_12], hP, hD, hS, hl⟩
    by_cases c_14 : p0 = (6 : Int32)
    · refine lv_tableIn (tgt := 128) hx hb d_K_reckon_1 (by rw [c_14]; decide) (by rw [c_14]; decide) (by rw [c_14]; rfl) (by decide) ?_
      refine lv_aload_n hx hb d_K_reckon_128 rfl (lv_at hl 0 rfl) ?_
      refine lv_iload_n hx hb d_K_reckon_129 rfl (lv_at hl 2 rfl) ?_
      refine lv_iload_n hx hb d_K_reckon_130 rfl (lv_at hl 3 rfl) ?_
      refine lv_iconst (v := (-1 : Int32)) hx hb d_K_reckon_131 (by decide) ?_
      refine lv_ixor hx hb d_K_reckon_132 ?_
      refine lv_ior hx hb d_K_reckon_133 ?_
      refine zc_v (w2 := fun u9 => wK a u9) (va_runV (As := [.int (p1 ||| (p2 ^^^ (-1 : Int32)))]) (rest := []) ⟨hx, hb, hml, hown, ht⟩ (mt_K_take l D a H.size st (p1 ||| (p2 ^^^ (-1 : Int32)))) (cwV 1 ht (zgV zw_590 zw_592 zs_31 zw_6 zw_593) rfl rfl rfl kd_K_take ⟨Nat.le_of_ble_eq_true rfl, Nat.le_of_ble_eq_true rfl⟩) ⟨zw_blind zw_tt, va_recv (hK.sub (tys' := []) [] rfl) (hP.sub (ws' := wK a st) [0] rfl) (ci := 3) (q0 := 0) rfl rfl, zw_go (hP.sub (ws' := wK a st) [0] rfl) (hD.sub (ws' := wK a st) [0] (by decide) rfl) (hK.sub (tys' := []) [] rfl) (fun _ _ _ => trivial)⟩ rfl rfl hl.1 rfl (lv_room (Nat.le_of_ble_eq_true rfl)) d_K_reckon_134 ⟨Nat.le_of_ble_eq_true rfl, Nat.le_of_ble_eq_true rfl⟩) hP hD hS hA [0] [] [0] rfl rfl (by decide) (by decide) (by decide) (fun _ => rfl) (fun u_15 H locs hw hP hD hS => ?_)
      subst hw
      refine lv_goto (tgt := 261) hx hb d_K_reckon_137 (by decide) ?_
      exact J_2 (f_take st (p1 ||| (p2 ^^^ (-1 : Int32)))) _ _ _ ⟨by simp only [if_neg c_4, if_neg c_6, if_neg c_8, if_neg c_10, if_neg c_12, if_pos c_14], hP, hD, hS, hl⟩
    by_cases c_16 : p0 = (7 : Int32)
    · refine lv_tableIn (tgt := 140) hx hb d_K_reckon_1 (by rw [c_16]; decide) (by rw [c_16]; decide) (by rw [c_16]; rfl) (by decide) ?_
      refine lv_aload_n hx hb d_K_reckon_140 rfl (lv_at hl 0 rfl) ?_
      refine lv_iload_n hx hb d_K_reckon_141 rfl (lv_at hl 2 rfl) ?_
      refine lv_iload_n hx hb d_K_reckon_142 rfl (lv_at hl 3 rfl) ?_
      refine lv_ixor hx hb d_K_reckon_143 ?_
      refine lv_iconst (v := (-1 : Int32)) hx hb d_K_reckon_144 (by decide) ?_
      refine lv_ixor hx hb d_K_reckon_145 ?_
      refine zc_v (w2 := fun u9 => wK a u9) (va_runV (As := [.int ((p1 ^^^ p2) ^^^ (-1 : Int32))]) (rest := []) ⟨hx, hb, hml, hown, ht⟩ (mt_K_take l D a H.size st ((p1 ^^^ p2) ^^^ (-1 : Int32))) (cwV 1 ht (zgV zw_590 zw_592 zs_31 zw_6 zw_593) rfl rfl rfl kd_K_take ⟨Nat.le_of_ble_eq_true rfl, Nat.le_of_ble_eq_true rfl⟩) ⟨zw_blind zw_tt, va_recv (hK.sub (tys' := []) [] rfl) (hP.sub (ws' := wK a st) [0] rfl) (ci := 3) (q0 := 0) rfl rfl, zw_go (hP.sub (ws' := wK a st) [0] rfl) (hD.sub (ws' := wK a st) [0] (by decide) rfl) (hK.sub (tys' := []) [] rfl) (fun _ _ _ => trivial)⟩ rfl rfl hl.1 rfl (lv_room (Nat.le_of_ble_eq_true rfl)) d_K_reckon_146 ⟨Nat.le_of_ble_eq_true rfl, Nat.le_of_ble_eq_true rfl⟩) hP hD hS hA [0] [] [0] rfl rfl (by decide) (by decide) (by decide) (fun _ => rfl) (fun u_17 H locs hw hP hD hS => ?_)
      subst hw
      refine lv_goto (tgt := 261) hx hb d_K_reckon_149 (by decide) ?_
      exact J_2 (f_take st ((p1 ^^^ p2) ^^^ (-1 : Int32))) _ _ _ ⟨by simp only [if_neg c_4, if_neg c_6, if_neg c_8, if_neg c_10, if_neg c_12, if_neg c_14, if_pos c_16], hP, hD, hS, hl⟩
    by_cases c_18 : p0 = (8 : Int32)
    · refine lv_tableIn (tgt := 152) hx hb d_K_reckon_1 (by rw [c_18]; decide) (by rw [c_18]; decide) (by rw [c_18]; rfl) (by decide) ?_
      refine lv_aload_n hx hb d_K_reckon_152 rfl (lv_at hl 0 rfl) ?_
      refine lv_iload_n hx hb d_K_reckon_153 rfl (lv_at hl 2 rfl) ?_
      refine lv_iload_n hx hb d_K_reckon_154 rfl (lv_at hl 3 rfl) ?_
      refine lv_iload hx hb d_K_reckon_155 (lv_at hl 4 rfl) ?_
      refine zc_v (w2 := fun u9 => wK a u9) (va_runV (As := [.int p1, .int p2, .int p3]) (rest := []) ⟨hx, hb, hml, hown, ht⟩ (mt_K_add l D a H.size st p1 p2 p3) (cwV 3 ht (zgV zw_599 zw_600 zw_601 zw_6 zw_602) rfl rfl rfl kd_K_add ⟨Nat.le_of_ble_eq_true rfl, Nat.le_of_ble_eq_true rfl⟩) ⟨zw_blind zw_tt, va_recv (hK.sub (tys' := []) [] rfl) (hP.sub (ws' := wK a st) [0] rfl) (ci := 3) (q0 := 0) rfl rfl, zw_go (hP.sub (ws' := wK a st) [0] rfl) (hD.sub (ws' := wK a st) [0] (by decide) rfl) (hK.sub (tys' := []) [] rfl) (fun _ _ _ => trivial)⟩ rfl rfl hl.1 rfl (lv_room (Nat.le_of_ble_eq_true rfl)) d_K_reckon_157 ⟨Nat.le_of_ble_eq_true rfl, Nat.le_of_ble_eq_true rfl⟩) hP hD hS hA [0] [] [0] rfl rfl (by decide) (by decide) (by decide) (fun _ => rfl) (fun u_19 H locs hw hP hD hS => ?_)
      subst hw
      refine lv_goto (tgt := 261) hx hb d_K_reckon_160 (by decide) ?_
      exact J_2 (f_kadd st p1 p2 p3) _ _ _ ⟨by simp only [if_neg c_4, if_neg c_6, if_neg c_8, if_neg c_10, if_neg c_12, if_neg c_14, if_neg c_16, if_pos c_18], hP, hD, hS, hl⟩
    by_cases c_20 : p0 = (10 : Int32)
    · refine lv_tableIn (tgt := 163) hx hb d_K_reckon_1 (by rw [c_20]; decide) (by rw [c_20]; decide) (by rw [c_20]; rfl) (by decide) ?_
      refine lv_aload_n hx hb d_K_reckon_163 rfl (lv_at hl 0 rfl) ?_
      refine lv_iload_n hx hb d_K_reckon_164 rfl (lv_at hl 2 rfl) ?_
      refine lv_i2l (v := p1.toInt64) hx hb d_K_reckon_165 rfl ?_
      refine lv_ldc2 (v := (4294967295 : Int64)) hx hb hown (ht _ zw_598) d_K_reckon_166 ?_
      refine lv_land hx hb d_K_reckon_169 ?_
      refine lv_iload_n hx hb d_K_reckon_170 rfl (lv_at hl 3 rfl) ?_
      refine lv_i2l (v := p2.toInt64) hx hb d_K_reckon_171 rfl ?_
      refine lv_ldc2 (v := (4294967295 : Int64)) hx hb hown (ht _ zw_598) d_K_reckon_172 ?_
      refine lv_land hx hb d_K_reckon_175 ?_
      refine lv_lmul hx hb d_K_reckon_176 ?_
      refine zc_v (w2 := fun u9 => wK a u9) (va_runV (As := [.long ((p1.toInt64 &&& (4294967295 : Int64)) * (p2.toInt64 &&& (4294967295 : Int64)))]) (rest := []) ⟨hx, hb, hml, hown, ht⟩ (mt_K_takeProduct l D a H.size st ((p1.toInt64 &&& (4294967295 : Int64)) * (p2.toInt64 &&& (4294967295 : Int64)))) (cwV 1 ht (zgV zw_603 zw_605 zs_33 zw_6 zw_606) rfl rfl rfl kd_K_takeProduct ⟨Nat.le_of_ble_eq_true rfl, Nat.le_of_ble_eq_true rfl⟩) ⟨zw_blind zw_tt, va_recv (hK.sub (tys' := []) [] rfl) (hP.sub (ws' := wK a st) [0] rfl) (ci := 3) (q0 := 0) rfl rfl, zw_go (hP.sub (ws' := wK a st) [0] rfl) (hD.sub (ws' := wK a st) [0] (by decide) rfl) (hK.sub (tys' := []) [] rfl) (fun _ _ _ => trivial)⟩ rfl rfl hl.1 rfl (lv_room (Nat.le_of_ble_eq_true rfl)) d_K_reckon_177 ⟨Nat.le_of_ble_eq_true rfl, Nat.le_of_ble_eq_true rfl⟩) hP hD hS hA [0] [] [0] rfl rfl (by decide) (by decide) (by decide) (fun _ => rfl) (fun u_21 H locs hw hP hD hS => ?_)
      subst hw
      refine lv_goto (tgt := 261) hx hb d_K_reckon_180 (by decide) ?_
      exact J_2 (f_takeProduct st ((p1.toInt64 &&& (4294967295 : Int64)) * (p2.toInt64 &&& (4294967295 : Int64)))) _ _ _ ⟨by simp only [if_neg c_4, if_neg c_6, if_neg c_8, if_neg c_10, if_neg c_12, if_neg c_14, if_neg c_16, if_neg c_18, if_pos c_20], hP, hD, hS, hl⟩
    by_cases c_22 : p0 = (11 : Int32)
    · refine lv_tableIn (tgt := 183) hx hb d_K_reckon_1 (by rw [c_22]; decide) (by rw [c_22]; decide) (by rw [c_22]; rfl) (by decide) ?_
      refine lv_aload_n hx hb d_K_reckon_183 rfl (lv_at hl 0 rfl) ?_
      refine lv_iload_n hx hb d_K_reckon_184 rfl (lv_at hl 2 rfl) ?_
      refine lv_i2l (v := p1.toInt64) hx hb d_K_reckon_185 rfl ?_
      refine lv_iload_n hx hb d_K_reckon_186 rfl (lv_at hl 3 rfl) ?_
      refine lv_i2l (v := p2.toInt64) hx hb d_K_reckon_187 rfl ?_
      refine lv_lmul hx hb d_K_reckon_188 ?_
      refine zc_v (w2 := fun u9 => wK a u9) (va_runV (As := [.long (p1.toInt64 * p2.toInt64)]) (rest := []) ⟨hx, hb, hml, hown, ht⟩ (mt_K_takeProduct l D a H.size st (p1.toInt64 * p2.toInt64)) (cwV 1 ht (zgV zw_603 zw_605 zs_33 zw_6 zw_606) rfl rfl rfl kd_K_takeProduct ⟨Nat.le_of_ble_eq_true rfl, Nat.le_of_ble_eq_true rfl⟩) ⟨zw_blind zw_tt, va_recv (hK.sub (tys' := []) [] rfl) (hP.sub (ws' := wK a st) [0] rfl) (ci := 3) (q0 := 0) rfl rfl, zw_go (hP.sub (ws' := wK a st) [0] rfl) (hD.sub (ws' := wK a st) [0] (by decide) rfl) (hK.sub (tys' := []) [] rfl) (fun _ _ _ => trivial)⟩ rfl rfl hl.1 rfl (lv_room (Nat.le_of_ble_eq_true rfl)) d_K_reckon_189 ⟨Nat.le_of_ble_eq_true rfl, Nat.le_of_ble_eq_true rfl⟩) hP hD hS hA [0] [] [0] rfl rfl (by decide) (by decide) (by decide) (fun _ => rfl) (fun u_23 H locs hw hP hD hS => ?_)
      subst hw
      refine lv_goto (tgt := 261) hx hb d_K_reckon_192 (by decide) ?_
      exact J_2 (f_takeProduct st (p1.toInt64 * p2.toInt64)) _ _ _ ⟨by simp only [if_neg c_4, if_neg c_6, if_neg c_8, if_neg c_10, if_neg c_12, if_neg c_14, if_neg c_16, if_neg c_18, if_neg c_20, if_pos c_22], hP, hD, hS, hl⟩
    by_cases c_24 : p0 = (12 : Int32)
    · refine lv_tableIn (tgt := 195) hx hb d_K_reckon_1 (by rw [c_24]; decide) (by rw [c_24]; decide) (by rw [c_24]; rfl) (by decide) ?_
      refine lv_aload_n hx hb d_K_reckon_195 rfl (lv_at hl 0 rfl) ?_
      refine lv_iload_n hx hb d_K_reckon_196 rfl (lv_at hl 2 rfl) ?_
      refine lv_iload_n hx hb d_K_reckon_197 rfl (lv_at hl 3 rfl) ?_
      refine lv_iload hx hb d_K_reckon_198 (lv_at hl 4 rfl) ?_
      refine zc_v (w2 := fun u9 => wK a u9) (va_runV (As := [.int p1, .int p2, .int p3]) (rest := []) ⟨hx, hb, hml, hown, ht⟩ (mt_K_subtract l D a H.size st p1 p2 p3) (cwV 3 ht (zgV zw_594 zw_596 zs_32 zw_6 zw_597) rfl rfl rfl kd_K_subtract ⟨Nat.le_of_ble_eq_true rfl, Nat.le_of_ble_eq_true rfl⟩) ⟨zw_blind zw_tt, va_recv (hK.sub (tys' := []) [] rfl) (hP.sub (ws' := wK a st) [0] rfl) (ci := 3) (q0 := 0) rfl rfl, zw_go (hP.sub (ws' := wK a st) [0] rfl) (hD.sub (ws' := wK a st) [0] (by decide) rfl) (hK.sub (tys' := []) [] rfl) (fun _ _ _ => trivial)⟩ rfl rfl hl.1 rfl (lv_room (Nat.le_of_ble_eq_true rfl)) d_K_reckon_200 ⟨Nat.le_of_ble_eq_true rfl, Nat.le_of_ble_eq_true rfl⟩) hP hD hS hA [0] [] [0] rfl rfl (by decide) (by decide) (by decide) (fun _ => rfl) (fun u_25 H locs hw hP hD hS => ?_)
      subst hw
      refine lv_goto (tgt := 261) hx hb d_K_reckon_203 (by decide) ?_
      exact J_2 (f_subtract st p1 p2 p3) _ _ _ ⟨by simp only [if_neg c_4, if_neg c_6, if_neg c_8, if_neg c_10, if_neg c_12, if_neg c_14, if_neg c_16, if_neg c_18, if_neg c_20, if_neg c_22, if_pos c_24], hP, hD, hS, hl⟩
    by_cases c_26 : p0 = (14 : Int32)
    · refine lv_tableIn (tgt := 206) hx hb d_K_reckon_1 (by rw [c_26]; decide) (by rw [c_26]; decide) (by rw [c_26]; rfl) (by decide) ?_
      refine lv_aload_n hx hb d_K_reckon_206 rfl (lv_at hl 0 rfl) ?_
      refine lv_iload hx hb d_K_reckon_207 (lv_at hl 5 rfl) ?_
      refine lv_i2l (v := p4.toInt64) hx hb d_K_reckon_209 rfl ?_
      refine lv_ldc2 (v := (4294967295 : Int64)) hx hb hown (ht _ zw_598) d_K_reckon_210 ?_
      refine lv_land hx hb d_K_reckon_213 ?_
      refine lv_iload_n hx hb d_K_reckon_214 rfl (lv_at hl 2 rfl) ?_
      refine lv_iload_n hx hb d_K_reckon_215 rfl (lv_at hl 3 rfl) ?_
      refine lv_i2l (v := p2.toInt64) hx hb d_K_reckon_216 rfl ?_
      refine lv_ldc2 (v := (4294967295 : Int64)) hx hb hown (ht _ zw_598) d_K_reckon_217 ?_
      refine lv_land hx hb d_K_reckon_220 ?_
      refine zc_l (w2 := fun _ => wK a st) (va_runS (As := [.long (p4.toInt64 &&& (4294967295 : Int64)), .int p1, .long (p2.toInt64 &&& (4294967295 : Int64))]) (rest := [.ref a]) ⟨hx, hb, hml, hown, ht⟩ (mt_K_quotientWithoutSign l D H.size (p4.toInt64 &&& (4294967295 : Int64)) p1 (p2.toInt64 &&& (4294967295 : Int64))) (cwS 3 ht (zgS zw_607 zw_608 zw_6 zw_609) rfl rfl rfl kd_K_quotientWithoutSign ⟨Nat.le_of_ble_eq_true rfl, Nat.le_of_ble_eq_true rfl⟩) ⟨zw_blind zw_tt, zw_go (hP.sub (ws' := []) [] rfl) (hD.sub (ws' := []) [] (by decide) rfl) (hK.sub (tys' := []) [] rfl) (fun _ _ _ => trivial)⟩ rfl rfl hl.1 rfl (lv_room (Nat.le_of_ble_eq_true rfl)) d_K_reckon_221 ⟨Nat.le_of_ble_eq_true rfl, Nat.le_of_ble_eq_true rfl⟩) hP hD hS hA [] [0] [0] rfl rfl (by decide) (by decide) (by decide) (fun _ => rfl) (fun r_27 _ H locs hw hP hD hS => ?_)
      subst hw
      refine lv_lconst (v := (0 : Int64)) hx hb d_K_reckon_224 (by decide) ?_
      refine lv_ldc2 (v := (4294967295 : Int64)) hx hb hown (ht _ zw_598) d_K_reckon_225 ?_
      refine zc_v (w2 := fun u9 => wK a u9) (va_runV (As := [.long (f_quotientWithoutSign (p4.toInt64 &&& (4294967295 : Int64)) p1 (p2.toInt64 &&& (4294967295 : Int64))), .long (0 : Int64), .long (4294967295 : Int64)]) (rest := []) ⟨hx, hb, hml, hown, ht⟩ (mt_K_takeQuotient l D a H.size st (f_quotientWithoutSign (p4.toInt64 &&& (4294967295 : Int64)) p1 (p2.toInt64 &&& (4294967295 : Int64))) (0 : Int64) (4294967295 : Int64)) (cwV 3 ht (zgV zw_611 zw_613 zs_34 zw_6 zw_614) rfl rfl rfl kd_K_takeQuotient ⟨Nat.le_of_ble_eq_true rfl, Nat.le_of_ble_eq_true rfl⟩) ⟨zw_blind zw_tt, va_recv (hK.sub (tys' := []) [] rfl) (hP.sub (ws' := wK a st) [0] rfl) (ci := 3) (q0 := 0) rfl rfl, zw_go (hP.sub (ws' := wK a st) [0] rfl) (hD.sub (ws' := wK a st) [0] (by decide) rfl) (hK.sub (tys' := []) [] rfl) (fun _ _ _ => trivial)⟩ rfl rfl hl.1 rfl (lv_room (Nat.le_of_ble_eq_true rfl)) d_K_reckon_228 ⟨Nat.le_of_ble_eq_true rfl, Nat.le_of_ble_eq_true rfl⟩) hP hD hS hA [0] [] [0] rfl rfl (by decide) (by decide) (by decide) (fun _ => rfl) (fun u_28 H locs hw hP hD hS => ?_)
      subst hw
      refine lv_goto (tgt := 261) hx hb d_K_reckon_231 (by decide) ?_
      exact J_2 (f_takeQuotient st (f_quotientWithoutSign (p4.toInt64 &&& (4294967295 : Int64)) p1 (p2.toInt64 &&& (4294967295 : Int64))) (0 : Int64) (4294967295 : Int64)) _ _ _ ⟨by simp only [if_neg c_4, if_neg c_6, if_neg c_8, if_neg c_10, if_neg c_12, if_neg c_14, if_neg c_16, if_neg c_18, if_neg c_20, if_neg c_22, if_neg c_24, if_pos c_26], hP, hD, hS, hl⟩
    by_cases c_29 : p0 = (15 : Int32)
    · refine lv_tableIn (tgt := 234) hx hb d_K_reckon_1 (by rw [c_29]; decide) (by rw [c_29]; decide) (by rw [c_29]; rfl) (by decide) ?_
      refine lv_aload_n hx hb d_K_reckon_234 rfl (lv_at hl 0 rfl) ?_
      refine lv_iload hx hb d_K_reckon_235 (lv_at hl 5 rfl) ?_
      refine lv_iload_n hx hb d_K_reckon_237 rfl (lv_at hl 2 rfl) ?_
      refine lv_iload_n hx hb d_K_reckon_238 rfl (lv_at hl 3 rfl) ?_
      refine zc_l (w2 := fun _ => wK a st) (va_runS (As := [.int p4, .int p1, .int p2]) (rest := [.ref a]) ⟨hx, hb, hml, hown, ht⟩ (mt_K_quotientWithSign l D H.size p4 p1 p2) (cwS 3 ht (zgS zw_621 zw_622 zw_6 zw_623) rfl rfl rfl kd_K_quotientWithSign ⟨Nat.le_of_ble_eq_true rfl, Nat.le_of_ble_eq_true rfl⟩) ⟨zw_blind zw_tt, zw_go (hP.sub (ws' := []) [] rfl) (hD.sub (ws' := []) [] (by decide) rfl) (hK.sub (tys' := []) [] rfl) (fun _ _ _ => trivial)⟩ rfl rfl hl.1 rfl (lv_room (Nat.le_of_ble_eq_true rfl)) d_K_reckon_239 ⟨Nat.le_of_ble_eq_true rfl, Nat.le_of_ble_eq_true rfl⟩) hP hD hS hA [] [0] [0] rfl rfl (by decide) (by decide) (by decide) (fun _ => rfl) (fun r_30 _ H locs hw hP hD hS => ?_)
      subst hw
      refine lv_ldc2 (v := (-2147483648 : Int64)) hx hb hown (ht _ zw_626) d_K_reckon_242 ?_
      refine lv_ldc2 (v := (2147483647 : Int64)) hx hb hown (ht _ zw_627) d_K_reckon_245 ?_
      refine zc_v (w2 := fun u9 => wK a u9) (va_runV (As := [.long (f_quotientWithSign p4 p1 p2), .long (-2147483648 : Int64), .long (2147483647 : Int64)]) (rest := []) ⟨hx, hb, hml, hown, ht⟩ (mt_K_takeQuotient l D a H.size st (f_quotientWithSign p4 p1 p2) (-2147483648 : Int64) (2147483647 : Int64)) (cwV 3 ht (zgV zw_611 zw_613 zs_34 zw_6 zw_614) rfl rfl rfl kd_K_takeQuotient ⟨Nat.le_of_ble_eq_true rfl, Nat.le_of_ble_eq_true rfl⟩) ⟨zw_blind zw_tt, va_recv (hK.sub (tys' := []) [] rfl) (hP.sub (ws' := wK a st) [0] rfl) (ci := 3) (q0 := 0) rfl rfl, zw_go (hP.sub (ws' := wK a st) [0] rfl) (hD.sub (ws' := wK a st) [0] (by decide) rfl) (hK.sub (tys' := []) [] rfl) (fun _ _ _ => trivial)⟩ rfl rfl hl.1 rfl (lv_room (Nat.le_of_ble_eq_true rfl)) d_K_reckon_248 ⟨Nat.le_of_ble_eq_true rfl, Nat.le_of_ble_eq_true rfl⟩) hP hD hS hA [0] [] [0] rfl rfl (by decide) (by decide) (by decide) (fun _ => rfl) (fun u_31 H locs hw hP hD hS => ?_)
      subst hw
      refine lv_goto (tgt := 261) hx hb d_K_reckon_251 (by decide) ?_
      exact J_2 (f_takeQuotient st (f_quotientWithSign p4 p1 p2) (-2147483648 : Int64) (2147483647 : Int64)) _ _ _ ⟨by simp only [if_neg c_4, if_neg c_6, if_neg c_8, if_neg c_10, if_neg c_12, if_neg c_14, if_neg c_16, if_neg c_18, if_neg c_20, if_neg c_22, if_neg c_24, if_neg c_26, if_pos c_29], hP, hD, hS, hl⟩
    refine zsame (g := F0 m 254 ls []) ?_ (fun hd_3 => ?_)
    · refine lv_aload_n hx hb d_K_reckon_254 rfl (lv_at hl 0 rfl) ?_
      refine lv_iload_n hx hb d_K_reckon_255 rfl (lv_at hl 2 rfl) ?_
      refine lv_iload_n hx hb d_K_reckon_256 rfl (lv_at hl 3 rfl) ?_
      refine lv_iconst (v := (0 : Int32)) hx hb d_K_reckon_257 (by decide) ?_
      refine zc_v (w2 := fun u9 => wK a u9) (va_runV (As := [.int p1, .int p2, .int (0 : Int32)]) (rest := []) ⟨hx, hb, hml, hown, ht⟩ (mt_K_add l D a H.size st p1 p2 (0 : Int32)) (cwV 3 ht (zgV zw_599 zw_600 zw_601 zw_6 zw_602) rfl rfl rfl kd_K_add ⟨Nat.le_of_ble_eq_true rfl, Nat.le_of_ble_eq_true rfl⟩) ⟨zw_blind zw_tt, va_recv (hK.sub (tys' := []) [] rfl) (hP.sub (ws' := wK a st) [0] rfl) (ci := 3) (q0 := 0) rfl rfl, zw_go (hP.sub (ws' := wK a st) [0] rfl) (hD.sub (ws' := wK a st) [0] (by decide) rfl) (hK.sub (tys' := []) [] rfl) (fun _ _ _ => trivial)⟩ rfl rfl hl.1 rfl (lv_room (Nat.le_of_ble_eq_true rfl)) d_K_reckon_258 ⟨Nat.le_of_ble_eq_true rfl, Nat.le_of_ble_eq_true rfl⟩) hP hD hS hA [0] [] [0] rfl rfl (by decide) (by decide) (by decide) (fun _ => rfl) (fun u_32 H locs hw hP hD hS => ?_)
      subst hw
      exact J_2 (f_kadd st p1 p2 (0 : Int32)) _ _ _ ⟨by simp only [if_neg c_4, if_neg c_6, if_neg c_8, if_neg c_10, if_neg c_12, if_neg c_14, if_neg c_16, if_neg c_18, if_neg c_20, if_neg c_22, if_neg c_24, if_neg c_26, if_neg c_29], hP, hD, hS, hl⟩
    by_cases c_33 : p0 = (9 : Int32)
    · exact lv_tableIn (tgt := 254) hx hb d_K_reckon_1 (by rw [c_33]; decide) (by rw [c_33]; decide) (by rw [c_33]; rfl) (by decide) hd_3
    by_cases c_34 : p0 = (13 : Int32)
    · exact lv_tableIn (tgt := 254) hx hb d_K_reckon_1 (by rw [c_34]; decide) (by rw [c_34]; decide) (by rw [c_34]; rfl) (by decide) hd_3
    exact lv_tableOut (tgt := 254) hx hb d_K_reckon_1 (by have := lv_neT c_4 (a := 1) (by decide); have := lv_neT c_6 (a := 2) (by decide); have := lv_neT c_8 (a := 3) (by decide); have := lv_neT c_10 (a := 4) (by decide); have := lv_neT c_12 (a := 5) (by decide); have := lv_neT c_14 (a := 6) (by decide); have := lv_neT c_16 (a := 7) (by decide); have := lv_neT c_18 (a := 8) (by decide); have := lv_neT c_33 (a := 9) (by decide); have := lv_neT c_20 (a := 10) (by decide); have := lv_neT c_22 (a := 11) (by decide); have := lv_neT c_24 (a := 12) (by decide); have := lv_neT c_34 (a := 13) (by decide); have := lv_neT c_26 (a := 14) (by decide); have := lv_neT c_29 (a := 15) (by decide); omega) (by decide) hd_3
  obtain ⟨u_1, rfl⟩ : ∃ z, z = v9 := ⟨_, rfl⟩
  obtain ⟨eu_1, hP, hD, hS, hl⟩ := hG
  exact zl_v (u := u_1) hx hb hr hlocks hS hP hD (by subst eu_1; simp only [f_reckon]) d_K_reckon_261
