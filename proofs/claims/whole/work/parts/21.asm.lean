def okA (st : SA) : Prop := 0 ≤ (st.1 1).toInt ∧ (st.1 1).toInt ≤ (st.1 0).toInt ∧ (st.1 0).toInt ≤ 40
theorem nle_toInt {a b : Int32} (c : ¬ a ≤ b) : b.toInt < a.toInt := Int.not_le.mp (fun q => c (Int32.le_iff_toInt_le.mpr q))
theorem at_in {st : SA} (h : okA st) (c : ¬ (st.1 0) ≤ (st.1 1)) : vp_in (st.1 1) 40 := by
  have q := nle_toInt c
  obtain ⟨h1, h2, h3⟩ := h
  exact vp_in_iff.mpr ⟨h1, by omega⟩
theorem inc_toInt {x : Int32} (h0 : -1000 ≤ x.toInt) (h1 : x.toInt ≤ 1000) : (x + (1 : Int32)).toInt = x.toInt + 1 := by
  have e : (1 : Int32).toInt = 1 := by decide
  rw [Int32.toInt_add, e, Int.bmod_eq_of_le (by omega) (by omega)]
theorem ok_at {st : SA} (h : okA st) (c : ¬ (st.1 0) ≤ (st.1 1)) : okA (upd st.1 1 ((st.1 1) + (1 : Int32)), st.2) := by
  have q := nle_toInt c
  obtain ⟨h1, h2, h3⟩ := h
  have e := inc_toInt (x := st.1 1) (by omega) (by omega)
  show 0 ≤ ((st.1 1) + (1 : Int32)).toInt ∧ ((st.1 1) + (1 : Int32)).toInt ≤ (st.1 0).toInt ∧ (st.1 0).toInt ≤ 40
  omega
theorem at_back {u : SA} {n : Nat} {k : Int} (h : okA u ∧ (u.1 1).toInt + ((n + 1 : Nat) : Int) = k) (c : ¬ (u.1 0) ≤ (u.1 1)) : ((u.1 1) + (1 : Int32)).toInt + (n : Int) = k := by
  have q := nle_toInt c
  obtain ⟨⟨h1, h2, h3⟩, h4⟩ := h
  have e := inc_toInt (x := u.1 1) (by omega) (by omega)
  omega
theorem neg_at {x g a b q r : Int32} (e : x = (if g = (0 : Int32) then (0 : Int32) else (if a ≤ b then (0 : Int32) else (if q = r then (1 : Int32) else (0 : Int32))))) (c : ¬ x = (0 : Int32)) : ¬ a ≤ b := by
  intro h
  rw [e] at c
  simp [h] at c
theorem okA_ite {c : Prop} {d : Decidable c} {a b : SA} (ha : okA a) (hb : okA b) : okA (@ite _ c d a b) := by
  by_cases h : c
  · rw [if_pos h]; exact ha
  · rw [if_neg h]; exact hb
theorem okA_ite2 {c : Prop} {d : Decidable c} {a b : Int32 × SA} (ha : okA a.2) (hb : okA b.2) : okA (@ite _ c d a b).2 := by
  by_cases h : c
  · rw [if_pos h]; exact ha
  · rw [if_neg h]; exact hb
theorem d_A_isGood_0 : decode c_A_isGood 0 = .ok (.aload_n 0, 1) := by decide +kernel
theorem d_A_isGood_1 : decode c_A_isGood 1 = .ok (.getfield 15, 3) := by decide +kernel
theorem d_A_isGood_4 : decode c_A_isGood 4 = .ok (.iconst (-1), 1) := by decide +kernel
theorem d_A_isGood_5 : decode c_A_isGood 5 = .ok (.if_icmp .ne 7, 3) := by decide +kernel
theorem d_A_isGood_8 : decode c_A_isGood 8 = .ok (.iconst 1, 1) := by decide +kernel
theorem d_A_isGood_9 : decode c_A_isGood 9 = .ok (.goto 4, 3) := by decide +kernel
theorem d_A_isGood_12 : decode c_A_isGood 12 = .ok (.iconst 0, 1) := by decide +kernel
theorem d_A_isGood_13 : decode c_A_isGood 13 = .ok (.ireturn, 1) := by decide +kernel
theorem kd_A_isGood : (y_A_isGood).cls = "WindowMachine$Assembler" ∧ (y_A_isGood).cls ≠ "java/lang/invoke/MethodHandle" ∧ (y_A_isGood).cls ≠ "java/lang/invoke/VarHandle" ∧ (parseMethodDescriptor (y_A_isGood).desc).map (fun d => d.parameters.length) = some 0 := by decide +kernel
def f_isGood (st : SA) : Int32 := (let x_1 := (if (st.1 2) = (-1 : Int32) then (1 : Int32) else (0 : Int32)); x_1)
set_option maxHeartbeats 4000000 in
set_option maxRecDepth 100000 in
theorem mt_A_isGood (l : Launch) (D : va_G) (a b : Nat) (k : ClassId) (sz : Nat) (st : SA) : Met l y_A_isGood w_A_isGood ({ frames := 0, cells := 0, slots := 0, locals := 0 }) (va_Pc [.ref a] (zw_pre D vwCl [(k, .char)] sz (wA a b k st) (fun _ => True))) (va_Qi (fun r (_ : Unit) => r = f_isGood st) (fun u t => zw_at D vwCl (va_A (wA a b k st) sz) ((fun (_ : Unit) => wA a b k st) u) t) (va_A (wA a b k st) sz)) 0 0 (va_A (wA a b k st) sz) := by
  refine zm (Qf := fun A => va_Qi (fun r (_ : Unit) => r = f_isGood st) (fun u t => zw_at D vwCl A ((fun (_ : Unit) => wA a b k st) u) t) A) (Zf := fun _ _ => True) (cc := c_A_isGood) (nL := 1) (ret := (some .boolean)) (by decide) rfl (Nat.le_of_ble_eq_true rfl) ?_
  intro p e s m below meth c9 A H locs ls hx hb hml hown hts hr hlocks hA hK hP hD hS hZ hl
  have hl : lv_has ls 1 [(0, .ref a)] := hl
  have ht : ∀ w9 ∈ zT, w9.before _ s = true := fun w9 h9 => hts w9 (List.mem_cons_of_mem _ h9)
  refine lv_aload_n hx hb d_A_isGood_0 rfl (lv_at hl 0 rfl) ?_
  refine va_get (D := D) (ci := 0) (v := .int (st.1 2)) (C := "WindowMachine$Assembler") (T := T_A) (N := 5) hx hb ht zi_A hown hK hP 0 rfl rfl 3 (by decide) (ht _ zw_48) (fun _ h9 => h9) rfl d_A_isGood_1 ?_
  refine lv_iconst (v := (-1 : Int32)) hx hb d_A_isGood_4 (by decide) ?_
  refine zcut (X := Int32) (G := fun v9 H locs ls => v9 = (if (st.1 2) = (-1 : Int32) then (1 : Int32) else (0 : Int32)) ∧ va_P D vwCl (wA a b k st) H ∧ va_D A (wA a b k st) ∧ va_S A s.heap H locs ∧ lv_has ls 1 [(0, .ref a)]) (fr := fun v9 ls => F0 m 13 ls [.int v9]) (fun J_2 => ?_) (fun v9 H locs ls hG => ?_)
  · refine lv_icmp_ne (tgt := 12) hx hb d_A_isGood_5 (by decide) (fun c_3 => ?_) (fun c_3 => ?_)
    · refine lv_iconst (v := (0 : Int32)) hx hb d_A_isGood_12 (by decide) ?_
      exact J_2 (0 : Int32) _ _ _ ⟨by simp only [if_neg c_3], hP, hD, hS, hl⟩
    refine lv_iconst (v := (1 : Int32)) hx hb d_A_isGood_8 (by decide) ?_
    refine lv_goto (tgt := 13) hx hb d_A_isGood_9 (by decide) ?_
    exact J_2 (1 : Int32) _ _ _ ⟨by simp only [if_pos c_3], hP, hD, hS, hl⟩
  obtain ⟨x_1, rfl⟩ : ∃ z, z = v9 := ⟨_, rfl⟩
  obtain ⟨ex_1, hP, hD, hS, hl⟩ := hG
  have zbx_1 : zB x_1 := by rw [ex_1]; repeat' first | exact zB0 | exact zB1 | assumption | apply zB_ite
  exact zl_z (u := ()) hx hb hr (zbx_1).n hlocks hS hP hD (by subst ex_1; simp only [f_isGood]) d_A_isGood_13
theorem d_A_hasRoomFor_0 : decode c_A_hasRoomFor 0 = .ok (.aload_n 0, 1) := by decide +kernel
theorem d_A_hasRoomFor_1 : decode c_A_hasRoomFor 1 = .ok (.getfield 23, 3) := by decide +kernel
theorem d_A_hasRoomFor_4 : decode c_A_hasRoomFor 4 = .ok (.iload_n 1, 1) := by decide +kernel
theorem d_A_hasRoomFor_5 : decode c_A_hasRoomFor 5 = .ok (.iadd, 1) := by decide +kernel
theorem d_A_hasRoomFor_6 : decode c_A_hasRoomFor 6 = .ok (.bipush 40, 2) := by decide +kernel
theorem d_A_hasRoomFor_8 : decode c_A_hasRoomFor 8 = .ok (.if_icmp .gt 7, 3) := by decide +kernel
theorem d_A_hasRoomFor_11 : decode c_A_hasRoomFor 11 = .ok (.iconst 1, 1) := by decide +kernel
theorem d_A_hasRoomFor_12 : decode c_A_hasRoomFor 12 = .ok (.goto 4, 3) := by decide +kernel
theorem d_A_hasRoomFor_15 : decode c_A_hasRoomFor 15 = .ok (.iconst 0, 1) := by decide +kernel
theorem d_A_hasRoomFor_16 : decode c_A_hasRoomFor 16 = .ok (.ireturn, 1) := by decide +kernel
theorem kd_A_hasRoomFor : (y_A_hasRoomFor).cls = "WindowMachine$Assembler" ∧ (y_A_hasRoomFor).cls ≠ "java/lang/invoke/MethodHandle" ∧ (y_A_hasRoomFor).cls ≠ "java/lang/invoke/VarHandle" ∧ (parseMethodDescriptor (y_A_hasRoomFor).desc).map (fun d => d.parameters.length) = some 1 := by decide +kernel
def f_hasRoomFor (st : SA) (p0 : Int32) : Int32 := (let x_1 := (if (40 : Int32) < ((st.1 0) + p0) then (0 : Int32) else (1 : Int32)); x_1)
set_option maxHeartbeats 4000000 in
set_option maxRecDepth 100000 in
theorem mt_A_hasRoomFor (l : Launch) (D : va_G) (a b : Nat) (k : ClassId) (sz : Nat) (st : SA) (p0 : Int32) : Met l y_A_hasRoomFor w_A_hasRoomFor ({ frames := 0, cells := 0, slots := 0, locals := 0 }) (va_Pc [.ref a, .int p0] (zw_pre D vwCl [(k, .char)] sz (wA a b k st) (fun _ => True))) (va_Qi (fun r (_ : Unit) => r = f_hasRoomFor st p0) (fun u t => zw_at D vwCl (va_A (wA a b k st) sz) ((fun (_ : Unit) => wA a b k st) u) t) (va_A (wA a b k st) sz)) 0 0 (va_A (wA a b k st) sz) := by
  refine zm (Qf := fun A => va_Qi (fun r (_ : Unit) => r = f_hasRoomFor st p0) (fun u t => zw_at D vwCl A ((fun (_ : Unit) => wA a b k st) u) t) A) (Zf := fun _ _ => True) (cc := c_A_hasRoomFor) (nL := 2) (ret := (some .boolean)) (by decide) rfl (Nat.le_of_ble_eq_true rfl) ?_
  intro p e s m below meth c9 A H locs ls hx hb hml hown hts hr hlocks hA hK hP hD hS hZ hl
  have hl : lv_has ls 2 [(0, .ref a), (1, .int p0)] := hl
  have ht : ∀ w9 ∈ zT, w9.before _ s = true := fun w9 h9 => hts w9 (List.mem_cons_of_mem _ h9)
  refine lv_aload_n hx hb d_A_hasRoomFor_0 rfl (lv_at hl 0 rfl) ?_
  refine va_get (D := D) (ci := 0) (v := .int (st.1 0)) (C := "WindowMachine$Assembler") (T := T_A) (N := 5) hx hb ht zi_A hown hK hP 0 rfl rfl 1 (by decide) (ht _ zw_46) (fun _ h9 => h9) rfl d_A_hasRoomFor_1 ?_
  refine lv_iload_n hx hb d_A_hasRoomFor_4 rfl (lv_at hl 1 rfl) ?_
  refine lv_iadd hx hb d_A_hasRoomFor_5 ?_
  refine lv_bipush (v := (40 : Int32)) hx hb d_A_hasRoomFor_6 (by decide) ?_
  refine zcut (X := Int32) (G := fun v9 H locs ls => v9 = (if (40 : Int32) < ((st.1 0) + p0) then (0 : Int32) else (1 : Int32)) ∧ va_P D vwCl (wA a b k st) H ∧ va_D A (wA a b k st) ∧ va_S A s.heap H locs ∧ lv_has ls 2 [(0, .ref a), (1, .int p0)]) (fr := fun v9 ls => F0 m 16 ls [.int v9]) (fun J_2 => ?_) (fun v9 H locs ls hG => ?_)
  · refine lv_icmp_gt (tgt := 15) hx hb d_A_hasRoomFor_8 (by decide) (fun c_3 => ?_) (fun c_3 => ?_)
    · refine lv_iconst (v := (0 : Int32)) hx hb d_A_hasRoomFor_15 (by decide) ?_
      exact J_2 (0 : Int32) _ _ _ ⟨by simp only [if_pos c_3], hP, hD, hS, hl⟩
    refine lv_iconst (v := (1 : Int32)) hx hb d_A_hasRoomFor_11 (by decide) ?_
    refine lv_goto (tgt := 16) hx hb d_A_hasRoomFor_12 (by decide) ?_
    exact J_2 (1 : Int32) _ _ _ ⟨by simp only [if_neg c_3], hP, hD, hS, hl⟩
  obtain ⟨x_1, rfl⟩ : ∃ z, z = v9 := ⟨_, rfl⟩
  obtain ⟨ex_1, hP, hD, hS, hl⟩ := hG
  have zbx_1 : zB x_1 := by rw [ex_1]; repeat' first | exact zB0 | exact zB1 | assumption | apply zB_ite
  exact zl_z (u := ()) hx hb hr (zbx_1).n hlocks hS hP hD (by subst ex_1; simp only [f_hasRoomFor]) d_A_hasRoomFor_16
theorem d_A_expect_0 : decode c_A_expect 0 = .ok (.aload_n 0, 1) := by decide +kernel
theorem d_A_expect_1 : decode c_A_expect 1 = .ok (.invokevirtual 36, 3) := by decide +kernel
theorem d_A_expect_4 : decode c_A_expect 4 = .ok (.ifCond .ne 4, 3) := by decide +kernel
theorem d_A_expect_7 : decode c_A_expect 7 = .ok (.return_, 1) := by decide +kernel
theorem d_A_expect_8 : decode c_A_expect 8 = .ok (.aload_n 0, 1) := by decide +kernel
theorem d_A_expect_9 : decode c_A_expect 9 = .ok (.getfield 26, 3) := by decide +kernel
theorem d_A_expect_12 : decode c_A_expect 12 = .ok (.aload_n 0, 1) := by decide +kernel
theorem d_A_expect_13 : decode c_A_expect 13 = .ok (.getfield 23, 3) := by decide +kernel
theorem d_A_expect_16 : decode c_A_expect 16 = .ok (.if_icmp .ge 29, 3) := by decide +kernel
theorem d_A_expect_19 : decode c_A_expect 19 = .ok (.aload_n 0, 1) := by decide +kernel
theorem d_A_expect_20 : decode c_A_expect 20 = .ok (.getfield 11, 3) := by decide +kernel
theorem d_A_expect_23 : decode c_A_expect 23 = .ok (.aload_n 0, 1) := by decide +kernel
theorem d_A_expect_24 : decode c_A_expect 24 = .ok (.getfield 26, 3) := by decide +kernel
theorem d_A_expect_27 : decode c_A_expect 27 = .ok (.caload, 1) := by decide +kernel
theorem d_A_expect_28 : decode c_A_expect 28 = .ok (.iload_n 1, 1) := by decide +kernel
theorem d_A_expect_29 : decode c_A_expect 29 = .ok (.if_icmp .ne 16, 3) := by decide +kernel
theorem d_A_expect_32 : decode c_A_expect 32 = .ok (.aload_n 0, 1) := by decide +kernel
theorem d_A_expect_33 : decode c_A_expect 33 = .ok (.dup, 1) := by decide +kernel
theorem d_A_expect_34 : decode c_A_expect 34 = .ok (.getfield 26, 3) := by decide +kernel
theorem d_A_expect_37 : decode c_A_expect 37 = .ok (.iconst 1, 1) := by decide +kernel
theorem d_A_expect_38 : decode c_A_expect 38 = .ok (.iadd, 1) := by decide +kernel
theorem d_A_expect_39 : decode c_A_expect 39 = .ok (.putfield 26, 3) := by decide +kernel
theorem d_A_expect_42 : decode c_A_expect 42 = .ok (.goto 11, 3) := by decide +kernel
theorem d_A_expect_45 : decode c_A_expect 45 = .ok (.aload_n 0, 1) := by decide +kernel
theorem d_A_expect_46 : decode c_A_expect 46 = .ok (.aload_n 0, 1) := by decide +kernel
theorem d_A_expect_47 : decode c_A_expect 47 = .ok (.getfield 26, 3) := by decide +kernel
theorem d_A_expect_50 : decode c_A_expect 50 = .ok (.putfield 15, 3) := by decide +kernel
theorem d_A_expect_53 : decode c_A_expect 53 = .ok (.return_, 1) := by decide +kernel
theorem kd_A_expect : (y_A_expect).cls = "WindowMachine$Assembler" ∧ (y_A_expect).cls ≠ "java/lang/invoke/MethodHandle" ∧ (y_A_expect).cls ≠ "java/lang/invoke/VarHandle" ∧ (parseMethodDescriptor (y_A_expect).desc).map (fun d => d.parameters.length) = some 1 := by decide +kernel
def f_expect (st : SA) (p0 : Int32) : SA := (if (f_isGood st) = (0 : Int32) then st else (let u_3 := (if (st.1 0) ≤ (st.1 1) then (upd st.1 2 (st.1 1), st.2) else (if (st.2 (st.1 1).toNatClampNeg) = p0 then (upd st.1 1 ((st.1 1) + (1 : Int32)), st.2) else (upd st.1 2 (st.1 1), st.2))); u_3))
set_option maxHeartbeats 4000000 in
set_option maxRecDepth 100000 in
theorem mt_A_expect (l : Launch) (D : va_G) (a b : Nat) (k : ClassId) (sz : Nat) (st : SA) (p0 : Int32) (hA9 : okA st) : Met l y_A_expect w_A_expect ({ frames := 1, cells := 0, slots := 0, locals := 20 }) (va_Pc [.ref a, .int p0] (zw_pre D vwCl [(k, .char)] sz (wA a b k st) (fun _ => True))) (va_Qv (fun (u : SA) => u = f_expect st p0) (fun u t => zw_at D vwCl (va_A (wA a b k st) sz) ((fun (u : SA) => wA a b k u) u) t) (va_A (wA a b k st) sz)) 0 0 (va_A (wA a b k st) sz) := by
  refine zm (Qf := fun A => va_Qv (fun (u : SA) => u = f_expect st p0) (fun u t => zw_at D vwCl A ((fun (u : SA) => wA a b k u) u) t) A) (Zf := fun _ _ => True) (cc := c_A_expect) (nL := 2) (ret := none) (by decide) rfl (Nat.le_of_ble_eq_true rfl) ?_
  intro p e s m below meth c9 A H locs ls hx hb hml hown hts hr hlocks hA hK hP hD hS hZ hl
  have hl : lv_has ls 2 [(0, .ref a), (1, .int p0)] := hl
  have ht : ∀ w9 ∈ zT, w9.before _ s = true := fun w9 h9 => hts w9 (List.mem_cons_of_mem _ h9)
  refine lv_aload_n hx hb d_A_expect_0 rfl (lv_at hl 0 rfl) ?_
  refine zc_i (w2 := fun _ => wA a b k st) (va_runV (As := []) (rest := []) ⟨hx, hb, hml, hown, ht⟩ (mt_A_isGood l D a b k H.size st) (cwV 0 ht (zgV zw_408 zw_410 zs_11 zw_3 zw_411) rfl rfl rfl kd_A_isGood ⟨Nat.le_of_ble_eq_true rfl, Nat.le_of_ble_eq_true rfl⟩) ⟨zw_blind zw_tt, va_recv (hK.sub (tys' := [(k, .char)]) [0] rfl) (hP.sub (ws' := wA a b k st) [0, 1] rfl) (ci := 0) (q0 := 0) rfl rfl, zw_go (hP.sub (ws' := wA a b k st) [0, 1] rfl) (hD.sub (ws' := wA a b k st) [0, 1] (by decide) rfl) (hK.sub (tys' := [(k, .char)]) [0] rfl) (fun _ _ _ => trivial)⟩ rfl rfl hl.1 rfl (lv_room (Nat.le_of_ble_eq_true rfl)) d_A_expect_1 ⟨Nat.le_of_ble_eq_true rfl, Nat.le_of_ble_eq_true rfl⟩) hP hD hS hA [0, 1] [] [0, 1] rfl rfl (by decide) (by decide) (by decide) (fun _ => rfl) (fun r_1 _ H locs hw hP hD hS => ?_)
  subst hw
  refine lv_if_ne (tgt := 8) hx hb d_A_expect_4 (by decide) (fun c_2 => ?_) (fun c_2 => ?_)
  · refine lv_aload_n hx hb d_A_expect_8 rfl (lv_at hl 0 rfl) ?_
    refine va_get (D := D) (ci := 0) (v := .int (st.1 1)) (C := "WindowMachine$Assembler") (T := T_A) (N := 5) hx hb ht zi_A hown hK hP 0 rfl rfl 2 (by decide) (ht _ zw_47) (fun _ h9 => h9) rfl d_A_expect_9 ?_
    refine lv_aload_n hx hb d_A_expect_12 rfl (lv_at hl 0 rfl) ?_
    refine va_get (D := D) (ci := 0) (v := .int (st.1 0)) (C := "WindowMachine$Assembler") (T := T_A) (N := 5) hx hb ht zi_A hown hK hP 0 rfl rfl 1 (by decide) (ht _ zw_46) (fun _ h9 => h9) rfl d_A_expect_13 ?_
    refine zcut (X := SA) (G := fun v9 H locs ls => v9 = (if (st.1 0) ≤ (st.1 1) then (upd st.1 2 (st.1 1), st.2) else (if (st.2 (st.1 1).toNatClampNeg) = p0 then (upd st.1 1 ((st.1 1) + (1 : Int32)), st.2) else (upd st.1 2 (st.1 1), st.2))) ∧ va_P D vwCl (wA a b k v9) H ∧ va_D A (wA a b k v9) ∧ va_S A s.heap H locs ∧ lv_has ls 2 [(0, .ref a), (1, .int p0)]) (fr := fun v9 ls => F0 m 53 ls []) (fun J_4 => ?_) (fun v9 H locs ls hG => ?_)
    · refine lv_icmp_ge (tgt := 45) hx hb d_A_expect_16 (by decide) (fun c_5 => ?_) (fun c_5 => ?_)
      · refine lv_aload_n hx hb d_A_expect_45 rfl (lv_at hl 0 rfl) ?_
        refine lv_aload_n hx hb d_A_expect_46 rfl (lv_at hl 0 rfl) ?_
        refine va_get (D := D) (ci := 0) (v := .int (st.1 1)) (C := "WindowMachine$Assembler") (T := T_A) (N := 5) hx hb ht zi_A hown hK hP 0 rfl rfl 2 (by decide) (ht _ zw_47) (fun _ h9 => h9) rfl d_A_expect_47 ?_
        refine va_put (D := D) (ci := 0) (v := .int (st.1 1)) (ty := .int) (C := "WindowMachine$Assembler") (T := T_A) (N := 5) hx hb ht zi_A ty_A tyok_A nm_A hown hK hP hD hS 0 rfl rfl 3 (by decide) (ht _ zw_48) (fun _ h9 => h9) rfl (by decide +kernel) rfl rfl (Nat.le_of_ble_eq_true rfl) d_A_expect_50 (fun H locs hP hD hS => ?_)
        have hP : va_P D vwCl (wA a b k (upd st.1 2 (st.1 1), st.2)) H := hP
        have hD : va_D A (wA a b k (upd st.1 2 (st.1 1), st.2)) := hD
        exact J_4 (upd st.1 2 (st.1 1), st.2) _ _ _ ⟨by simp only [if_pos c_5], hP, hD, hS, hl⟩
      refine lv_aload_n hx hb d_A_expect_19 rfl (lv_at hl 0 rfl) ?_
      refine va_get (D := D) (ci := 0) (v := .ref b) (C := "WindowMachine$Assembler") (T := T_A) (N := 5) hx hb ht zi_A hown hK hP 0 rfl rfl 0 (by decide) (ht _ zw_44) (fun _ h9 => h9) rfl d_A_expect_20 ?_
      refine lv_aload_n hx hb d_A_expect_23 rfl (lv_at hl 0 rfl) ?_
      refine va_get (D := D) (ci := 0) (v := .int (st.1 1)) (C := "WindowMachine$Assembler") (T := T_A) (N := 5) hx hb ht zi_A hown hK hP 0 rfl rfl 2 (by decide) (ht _ zw_47) (fun _ h9 => h9) rfl d_A_expect_24 ?_
      refine va_cald hx hb hK hP 1 0 rfl rfl (at_in hA9 c_5) d_A_expect_27 ?_
      refine lv_iload_n hx hb d_A_expect_28 rfl (lv_at hl 1 rfl) ?_
      refine lv_icmp_ne (tgt := 45) hx hb d_A_expect_29 (by decide) (fun c_6 => ?_) (fun c_6 => ?_)
      · refine lv_aload_n hx hb d_A_expect_45 rfl (lv_at hl 0 rfl) ?_
        refine lv_aload_n hx hb d_A_expect_46 rfl (lv_at hl 0 rfl) ?_
        refine va_get (D := D) (ci := 0) (v := .int (st.1 1)) (C := "WindowMachine$Assembler") (T := T_A) (N := 5) hx hb ht zi_A hown hK hP 0 rfl rfl 2 (by decide) (ht _ zw_47) (fun _ h9 => h9) rfl d_A_expect_47 ?_
        refine va_put (D := D) (ci := 0) (v := .int (st.1 1)) (ty := .int) (C := "WindowMachine$Assembler") (T := T_A) (N := 5) hx hb ht zi_A ty_A tyok_A nm_A hown hK hP hD hS 0 rfl rfl 3 (by decide) (ht _ zw_48) (fun _ h9 => h9) rfl (by decide +kernel) rfl rfl (Nat.le_of_ble_eq_true rfl) d_A_expect_50 (fun H locs hP hD hS => ?_)
        have hP : va_P D vwCl (wA a b k (upd st.1 2 (st.1 1), st.2)) H := hP
        have hD : va_D A (wA a b k (upd st.1 2 (st.1 1), st.2)) := hD
        exact J_4 (upd st.1 2 (st.1 1), st.2) _ _ _ ⟨by simp only [if_neg c_5, if_neg c_6], hP, hD, hS, hl⟩
      refine lv_aload_n hx hb d_A_expect_32 rfl (lv_at hl 0 rfl) ?_
      refine lv_dup hx hb d_A_expect_33 rfl ?_
      refine va_get (D := D) (ci := 0) (v := .int (st.1 1)) (C := "WindowMachine$Assembler") (T := T_A) (N := 5) hx hb ht zi_A hown hK hP 0 rfl rfl 2 (by decide) (ht _ zw_47) (fun _ h9 => h9) rfl d_A_expect_34 ?_
      refine lv_iconst (v := (1 : Int32)) hx hb d_A_expect_37 (by decide) ?_
      refine lv_iadd hx hb d_A_expect_38 ?_
      refine va_put (D := D) (ci := 0) (v := .int ((st.1 1) + (1 : Int32))) (ty := .int) (C := "WindowMachine$Assembler") (T := T_A) (N := 5) hx hb ht zi_A ty_A tyok_A nm_A hown hK hP hD hS 0 rfl rfl 2 (by decide) (ht _ zw_47) (fun _ h9 => h9) rfl (by decide +kernel) rfl rfl (Nat.le_of_ble_eq_true rfl) d_A_expect_39 (fun H locs hP hD hS => ?_)
      have hP : va_P D vwCl (wA a b k (upd st.1 1 ((st.1 1) + (1 : Int32)), st.2)) H := hP
      have hD : va_D A (wA a b k (upd st.1 1 ((st.1 1) + (1 : Int32)), st.2)) := hD
      refine lv_goto (tgt := 53) hx hb d_A_expect_42 (by decide) ?_
      exact J_4 (upd st.1 1 ((st.1 1) + (1 : Int32)), st.2) _ _ _ ⟨by simp only [if_neg c_5, if_pos c_6], hP, hD, hS, hl⟩
    obtain ⟨u_3, rfl⟩ : ∃ z, z = v9 := ⟨_, rfl⟩
    obtain ⟨eu_3, hP, hD, hS, hl⟩ := hG
    have ok_3 : okA u_3 := by rw [eu_3]; (repeat' split) <;> first | exact hA9 | exact (ok_at hA9 c_3)
    exact zl_v (u := u_3) hx hb hr hlocks hS hP hD (by subst eu_3; simp only [f_expect, if_neg c_2]) d_A_expect_53
  exact zl_v (u := st) hx hb hr hlocks hS hP hD (by simp only [f_expect, if_pos c_2]) d_A_expect_7
theorem d_A_behind_0 : decode c_A_behind 0 = .ok (.aload_n 0, 1) := by decide +kernel
theorem d_A_behind_1 : decode c_A_behind 1 = .ok (.bipush 44, 2) := by decide +kernel
theorem d_A_behind_3 : decode c_A_behind 3 = .ok (.invokevirtual 102, 3) := by decide +kernel
theorem d_A_behind_6 : decode c_A_behind 6 = .ok (.iload_n 1, 1) := by decide +kernel
theorem d_A_behind_7 : decode c_A_behind 7 = .ok (.ireturn, 1) := by decide +kernel
theorem kd_A_behind : (y_A_behind).cls = "WindowMachine$Assembler" ∧ (y_A_behind).cls ≠ "java/lang/invoke/MethodHandle" ∧ (y_A_behind).cls ≠ "java/lang/invoke/VarHandle" ∧ (parseMethodDescriptor (y_A_behind).desc).map (fun d => d.parameters.length) = some 1 := by decide +kernel
def f_behind (st : SA) (p0 : Int32) : Int32 × SA := (let u_1 := f_expect st (44 : Int32); (p0, u_1))
set_option maxHeartbeats 4000000 in
set_option maxRecDepth 100000 in
theorem mt_A_behind (l : Launch) (D : va_G) (a b : Nat) (k : ClassId) (sz : Nat) (st : SA) (p0 : Int32) (hA9 : okA st) : Met l y_A_behind w_A_behind ({ frames := 2, cells := 0, slots := 0, locals := 41 }) (va_Pc [.ref a, .int p0] (zw_pre D vwCl [(k, .char)] sz (wA a b k st) (fun _ => True))) (va_Qi (fun r (u : SA) => r = (f_behind st p0).1 ∧ u = (f_behind st p0).2) (fun u t => zw_at D vwCl (va_A (wA a b k st) sz) ((fun (u : SA) => wA a b k u) u) t) (va_A (wA a b k st) sz)) 0 0 (va_A (wA a b k st) sz) := by
  refine zm (Qf := fun A => va_Qi (fun r (u : SA) => r = (f_behind st p0).1 ∧ u = (f_behind st p0).2) (fun u t => zw_at D vwCl A ((fun (u : SA) => wA a b k u) u) t) A) (Zf := fun _ _ => True) (cc := c_A_behind) (nL := 2) (ret := (some .int)) (by decide) rfl (Nat.le_of_ble_eq_true rfl) ?_
  intro p e s m below meth c9 A H locs ls hx hb hml hown hts hr hlocks hA hK hP hD hS hZ hl
  have hl : lv_has ls 2 [(0, .ref a), (1, .int p0)] := hl
  have ht : ∀ w9 ∈ zT, w9.before _ s = true := fun w9 h9 => hts w9 (List.mem_cons_of_mem _ h9)
  refine lv_aload_n hx hb d_A_behind_0 rfl (lv_at hl 0 rfl) ?_
  refine lv_bipush (v := (44 : Int32)) hx hb d_A_behind_1 (by decide) ?_
  refine zc_v (w2 := fun u9 => wA a b k u9) (va_runV (As := [.int (44 : Int32)]) (rest := []) ⟨hx, hb, hml, hown, ht⟩ (mt_A_expect l D a b k H.size st (44 : Int32) hA9) (cwV 1 ht (zgV zw_404 zw_406 zs_10 zw_3 zw_407) rfl rfl rfl kd_A_expect ⟨Nat.le_of_ble_eq_true rfl, Nat.le_of_ble_eq_true rfl⟩) ⟨zw_blind zw_tt, va_recv (hK.sub (tys' := [(k, .char)]) [0] rfl) (hP.sub (ws' := wA a b k st) [0, 1] rfl) (ci := 0) (q0 := 0) rfl rfl, zw_go (hP.sub (ws' := wA a b k st) [0, 1] rfl) (hD.sub (ws' := wA a b k st) [0, 1] (by decide) rfl) (hK.sub (tys' := [(k, .char)]) [0] rfl) (fun _ _ _ => trivial)⟩ rfl rfl hl.1 rfl (lv_room (Nat.le_of_ble_eq_true rfl)) d_A_behind_3 ⟨Nat.le_of_ble_eq_true rfl, Nat.le_of_ble_eq_true rfl⟩) hP hD hS hA [0, 1] [] [0, 1] rfl rfl (by decide) (by decide) (by decide) (fun _ => rfl) (fun u_1 H locs hw hP hD hS => ?_)
  have eu_1 := hw
  have ok_1 : okA u_1 := by rw [eu_1]; exact (ok_expect hA9)
  refine lv_iload_n hx hb d_A_behind_6 rfl (lv_at hl 1 rfl) ?_
  exact zl_i (u := u_1) hx hb hr hlocks hS hP hD (⟨by subst eu_1; simp only [f_behind], by subst eu_1; simp only [f_behind]⟩) d_A_behind_7
theorem d_A_checkRange_0 : decode c_A_checkRange 0 = .ok (.aload_n 0, 1) := by decide +kernel
theorem d_A_checkRange_1 : decode c_A_checkRange 1 = .ok (.invokevirtual 36, 3) := by decide +kernel
theorem d_A_checkRange_4 : decode c_A_checkRange 4 = .ok (.ifCond .eq 19, 3) := by decide +kernel
theorem d_A_checkRange_7 : decode c_A_checkRange 7 = .ok (.iload_n 1, 1) := by decide +kernel
theorem d_A_checkRange_8 : decode c_A_checkRange 8 = .ok (.iload_n 2, 1) := by decide +kernel
theorem d_A_checkRange_9 : decode c_A_checkRange 9 = .ok (.if_icmp .lt 8, 3) := by decide +kernel
theorem d_A_checkRange_12 : decode c_A_checkRange 12 = .ok (.iload_n 1, 1) := by decide +kernel
theorem d_A_checkRange_13 : decode c_A_checkRange 13 = .ok (.iload_n 3, 1) := by decide +kernel
theorem d_A_checkRange_14 : decode c_A_checkRange 14 = .ok (.if_icmp .le 9, 3) := by decide +kernel
theorem d_A_checkRange_17 : decode c_A_checkRange 17 = .ok (.aload_n 0, 1) := by decide +kernel
theorem d_A_checkRange_18 : decode c_A_checkRange 18 = .ok (.iload 4, 2) := by decide +kernel
theorem d_A_checkRange_20 : decode c_A_checkRange 20 = .ok (.putfield 15, 3) := by decide +kernel
theorem d_A_checkRange_23 : decode c_A_checkRange 23 = .ok (.return_, 1) := by decide +kernel
theorem kd_A_checkRange : (y_A_checkRange).cls = "WindowMachine$Assembler" ∧ (y_A_checkRange).cls ≠ "java/lang/invoke/MethodHandle" ∧ (y_A_checkRange).cls ≠ "java/lang/invoke/VarHandle" ∧ (parseMethodDescriptor (y_A_checkRange).desc).map (fun d => d.parameters.length) = some 4 := by decide +kernel
def f_checkRange (st : SA) (p0 : Int32) (p1 : Int32) (p2 : Int32) (p3 : Int32) : SA := (let u_2 := (if (f_isGood st) = (0 : Int32) then st else (if p0 < p1 then (upd st.1 2 p3, st.2) else (if p0 ≤ p2 then st else (upd st.1 2 p3, st.2)))); u_2)
set_option maxHeartbeats 4000000 in
set_option maxRecDepth 100000 in
theorem mt_A_checkRange (l : Launch) (D : va_G) (a b : Nat) (k : ClassId) (sz : Nat) (st : SA) (p0 : Int32) (p1 : Int32) (p2 : Int32) (p3 : Int32) (hA9 : okA st) : Met l y_A_checkRange w_A_checkRange ({ frames := 1, cells := 0, slots := 0, locals := 20 }) (va_Pc [.ref a, .int p0, .int p1, .int p2, .int p3] (zw_pre D vwCl [(k, .char)] sz (wA a b k st) (fun _ => True))) (va_Qv (fun (u : SA) => u = f_checkRange st p0 p1 p2 p3) (fun u t => zw_at D vwCl (va_A (wA a b k st) sz) ((fun (u : SA) => wA a b k u) u) t) (va_A (wA a b k st) sz)) 0 0 (va_A (wA a b k st) sz) := by
  refine zm (Qf := fun A => va_Qv (fun (u : SA) => u = f_checkRange st p0 p1 p2 p3) (fun u t => zw_at D vwCl A ((fun (u : SA) => wA a b k u) u) t) A) (Zf := fun _ _ => True) (cc := c_A_checkRange) (nL := 5) (ret := none) (by decide) rfl (Nat.le_of_ble_eq_true rfl) ?_
  intro p e s m below meth c9 A H locs ls hx hb hml hown hts hr hlocks hA hK hP hD hS hZ hl
  have hl : lv_has ls 5 [(0, .ref a), (1, .int p0), (2, .int p1), (3, .int p2), (4, .int p3)] := hl
  have ht : ∀ w9 ∈ zT, w9.before _ s = true := fun w9 h9 => hts w9 (List.mem_cons_of_mem _ h9)
  refine lv_aload_n hx hb d_A_checkRange_0 rfl (lv_at hl 0 rfl) ?_
  refine zc_i (w2 := fun _ => wA a b k st) (va_runV (As := []) (rest := []) ⟨hx, hb, hml, hown, ht⟩ (mt_A_isGood l D a b k H.size st) (cwV 0 ht (zgV zw_408 zw_410 zs_11 zw_3 zw_411) rfl rfl rfl kd_A_isGood ⟨Nat.le_of_ble_eq_true rfl, Nat.le_of_ble_eq_true rfl⟩) ⟨zw_blind zw_tt, va_recv (hK.sub (tys' := [(k, .char)]) [0] rfl) (hP.sub (ws' := wA a b k st) [0, 1] rfl) (ci := 0) (q0 := 0) rfl rfl, zw_go (hP.sub (ws' := wA a b k st) [0, 1] rfl) (hD.sub (ws' := wA a b k st) [0, 1] (by decide) rfl) (hK.sub (tys' := [(k, .char)]) [0] rfl) (fun _ _ _ => trivial)⟩ rfl rfl hl.1 rfl (lv_room (Nat.le_of_ble_eq_true rfl)) d_A_checkRange_1 ⟨Nat.le_of_ble_eq_true rfl, Nat.le_of_ble_eq_true rfl⟩) hP hD hS hA [0, 1] [] [0, 1] rfl rfl (by decide) (by decide) (by decide) (fun _ => rfl) (fun r_1 _ H locs hw hP hD hS => ?_)
  subst hw
  refine zcut (X := SA) (G := fun v9 H locs ls => v9 = (if (f_isGood st) = (0 : Int32) then st else (if p0 < p1 then (upd st.1 2 p3, st.2) else (if p0 ≤ p2 then st else (upd st.1 2 p3, st.2)))) ∧ va_P D vwCl (wA a b k v9) H ∧ va_D A (wA a b k v9) ∧ va_S A s.heap H locs ∧ lv_has ls 5 [(0, .ref a), (1, .int p0), (2, .int p1), (3, .int p2), (4, .int p3)]) (fr := fun v9 ls => F0 m 23 ls []) (fun J_3 => ?_) (fun v9 H locs ls hG => ?_)
  · refine lv_if_eq (tgt := 23) hx hb d_A_checkRange_4 (by decide) (fun c_4 => ?_) (fun c_4 => ?_)
    · exact J_3 st _ _ _ ⟨by simp only [if_pos c_4], hP, hD, hS, hl⟩
    refine lv_iload_n hx hb d_A_checkRange_7 rfl (lv_at hl 1 rfl) ?_
    refine lv_iload_n hx hb d_A_checkRange_8 rfl (lv_at hl 2 rfl) ?_
    refine lv_icmp_lt (tgt := 17) hx hb d_A_checkRange_9 (by decide) (fun c_5 => ?_) (fun c_5 => ?_)
    · refine lv_aload_n hx hb d_A_checkRange_17 rfl (lv_at hl 0 rfl) ?_
      refine lv_iload hx hb d_A_checkRange_18 (lv_at hl 4 rfl) ?_
      refine va_put (D := D) (ci := 0) (v := .int p3) (ty := .int) (C := "WindowMachine$Assembler") (T := T_A) (N := 5) hx hb ht zi_A ty_A tyok_A nm_A hown hK hP hD hS 0 rfl rfl 3 (by decide) (ht _ zw_48) (fun _ h9 => h9) rfl (by decide +kernel) rfl rfl (Nat.le_of_ble_eq_true rfl) d_A_checkRange_20 (fun H locs hP hD hS => ?_)
      have hP : va_P D vwCl (wA a b k (upd st.1 2 p3, st.2)) H := hP
      have hD : va_D A (wA a b k (upd st.1 2 p3, st.2)) := hD
      exact J_3 (upd st.1 2 p3, st.2) _ _ _ ⟨by simp only [if_neg c_4, if_pos c_5], hP, hD, hS, hl⟩
    refine lv_iload_n hx hb d_A_checkRange_12 rfl (lv_at hl 1 rfl) ?_
    refine lv_iload_n hx hb d_A_checkRange_13 rfl (lv_at hl 3 rfl) ?_
    refine lv_icmp_le (tgt := 23) hx hb d_A_checkRange_14 (by decide) (fun c_6 => ?_) (fun c_6 => ?_)
    · exact J_3 st _ _ _ ⟨by simp only [if_neg c_4, if_neg c_5, if_pos c_6], hP, hD, hS, hl⟩
    refine lv_aload_n hx hb d_A_checkRange_17 rfl (lv_at hl 0 rfl) ?_
    refine lv_iload hx hb d_A_checkRange_18 (lv_at hl 4 rfl) ?_
    refine va_put (D := D) (ci := 0) (v := .int p3) (ty := .int) (C := "WindowMachine$Assembler") (T := T_A) (N := 5) hx hb ht zi_A ty_A tyok_A nm_A hown hK hP hD hS 0 rfl rfl 3 (by decide) (ht _ zw_48) (fun _ h9 => h9) rfl (by decide +kernel) rfl rfl (Nat.le_of_ble_eq_true rfl) d_A_checkRange_20 (fun H locs hP hD hS => ?_)
    have hP : va_P D vwCl (wA a b k (upd st.1 2 p3, st.2)) H := hP
    have hD : va_D A (wA a b k (upd st.1 2 p3, st.2)) := hD
    exact J_3 (upd st.1 2 p3, st.2) _ _ _ ⟨by simp only [if_neg c_4, if_neg c_5, if_neg c_6], hP, hD, hS, hl⟩
  obtain ⟨u_2, rfl⟩ : ∃ z, z = v9 := ⟨_, rfl⟩
  obtain ⟨eu_2, hP, hD, hS, hl⟩ := hG
  have ok_2 : okA u_2 := by rw [eu_2]; (repeat' split) <;> first | exact hA9
  exact zl_v (u := u_2) hx hb hr hlocks hS hP hD (by subst eu_2; simp only [f_checkRange]) d_A_checkRange_23
theorem ok_expect {st : SA} {p : Int32} (h : okA st) : okA (f_expect st p) := by
  unfold f_expect
  dsimp only
  split
  · exact h
  · split
    · exact h
    · split
      · exact ok_at h ‹_›
      · exact h
theorem ok_behind {st : SA} {p : Int32} (h : okA st) : okA (f_behind st p).2 := ok_expect h
theorem ok_checkRange {st : SA} {a b c d : Int32} (h : okA st) : okA (f_checkRange st a b c d) := by
  unfold f_checkRange
  dsimp only
  repeat' split
  all_goals exact h
theorem d_A_digits_0 : decode c_A_digits 0 = .ok (.aload_n 0, 1) := by decide +kernel
theorem d_A_digits_1 : decode c_A_digits 1 = .ok (.invokevirtual 36, 3) := by decide +kernel
theorem d_A_digits_4 : decode c_A_digits 4 = .ok (.ifCond .ne 5, 3) := by decide +kernel
theorem d_A_digits_7 : decode c_A_digits 7 = .ok (.iconst 0, 1) := by decide +kernel
theorem d_A_digits_8 : decode c_A_digits 8 = .ok (.ireturn, 1) := by decide +kernel
theorem d_A_digits_9 : decode c_A_digits 9 = .ok (.aload_n 0, 1) := by decide +kernel
theorem d_A_digits_10 : decode c_A_digits 10 = .ok (.getfield 26, 3) := by decide +kernel
theorem d_A_digits_13 : decode c_A_digits 13 = .ok (.istore_n 2, 1) := by decide +kernel
theorem d_A_digits_14 : decode c_A_digits 14 = .ok (.iconst 0, 1) := by decide +kernel
theorem d_A_digits_15 : decode c_A_digits 15 = .ok (.istore_n 3, 1) := by decide +kernel
theorem d_A_digits_16 : decode c_A_digits 16 = .ok (.aload_n 0, 1) := by decide +kernel
theorem d_A_digits_17 : decode c_A_digits 17 = .ok (.getfield 26, 3) := by decide +kernel
theorem d_A_digits_20 : decode c_A_digits 20 = .ok (.aload_n 0, 1) := by decide +kernel
theorem d_A_digits_21 : decode c_A_digits 21 = .ok (.getfield 23, 3) := by decide +kernel
theorem d_A_digits_24 : decode c_A_digits 24 = .ok (.if_icmp .ge 72, 3) := by decide +kernel
theorem d_A_digits_27 : decode c_A_digits 27 = .ok (.aload_n 0, 1) := by decide +kernel
theorem d_A_digits_28 : decode c_A_digits 28 = .ok (.getfield 26, 3) := by decide +kernel
theorem d_A_digits_31 : decode c_A_digits 31 = .ok (.iload_n 2, 1) := by decide +kernel
theorem d_A_digits_32 : decode c_A_digits 32 = .ok (.isub, 1) := by decide +kernel
theorem d_A_digits_33 : decode c_A_digits 33 = .ok (.iload_n 1, 1) := by decide +kernel
theorem d_A_digits_34 : decode c_A_digits 34 = .ok (.if_icmp .ge 62, 3) := by decide +kernel
theorem d_A_digits_37 : decode c_A_digits 37 = .ok (.aload_n 0, 1) := by decide +kernel
theorem d_A_digits_38 : decode c_A_digits 38 = .ok (.getfield 11, 3) := by decide +kernel
theorem d_A_digits_41 : decode c_A_digits 41 = .ok (.aload_n 0, 1) := by decide +kernel
theorem d_A_digits_42 : decode c_A_digits 42 = .ok (.getfield 26, 3) := by decide +kernel
theorem d_A_digits_45 : decode c_A_digits 45 = .ok (.caload, 1) := by decide +kernel
theorem d_A_digits_46 : decode c_A_digits 46 = .ok (.bipush 48, 2) := by decide +kernel
theorem d_A_digits_48 : decode c_A_digits 48 = .ok (.if_icmp .lt 48, 3) := by decide +kernel
theorem d_A_digits_51 : decode c_A_digits 51 = .ok (.aload_n 0, 1) := by decide +kernel
theorem d_A_digits_52 : decode c_A_digits 52 = .ok (.getfield 11, 3) := by decide +kernel
theorem d_A_digits_55 : decode c_A_digits 55 = .ok (.aload_n 0, 1) := by decide +kernel
theorem d_A_digits_56 : decode c_A_digits 56 = .ok (.getfield 26, 3) := by decide +kernel
theorem d_A_digits_59 : decode c_A_digits 59 = .ok (.caload, 1) := by decide +kernel
theorem d_A_digits_60 : decode c_A_digits 60 = .ok (.bipush 57, 2) := by decide +kernel
theorem d_A_digits_62 : decode c_A_digits 62 = .ok (.if_icmp .gt 34, 3) := by decide +kernel
theorem d_A_digits_65 : decode c_A_digits 65 = .ok (.bipush 10, 2) := by decide +kernel
theorem d_A_digits_67 : decode c_A_digits 67 = .ok (.iload_n 3, 1) := by decide +kernel
theorem d_A_digits_68 : decode c_A_digits 68 = .ok (.imul, 1) := by decide +kernel
theorem d_A_digits_69 : decode c_A_digits 69 = .ok (.aload_n 0, 1) := by decide +kernel
theorem d_A_digits_70 : decode c_A_digits 70 = .ok (.getfield 11, 3) := by decide +kernel
theorem d_A_digits_73 : decode c_A_digits 73 = .ok (.aload_n 0, 1) := by decide +kernel
theorem d_A_digits_74 : decode c_A_digits 74 = .ok (.getfield 26, 3) := by decide +kernel
theorem d_A_digits_77 : decode c_A_digits 77 = .ok (.caload, 1) := by decide +kernel
theorem d_A_digits_78 : decode c_A_digits 78 = .ok (.iadd, 1) := by decide +kernel
theorem d_A_digits_79 : decode c_A_digits 79 = .ok (.bipush 48, 2) := by decide +kernel
theorem d_A_digits_81 : decode c_A_digits 81 = .ok (.isub, 1) := by decide +kernel
theorem d_A_digits_82 : decode c_A_digits 82 = .ok (.istore_n 3, 1) := by decide +kernel
theorem d_A_digits_83 : decode c_A_digits 83 = .ok (.aload_n 0, 1) := by decide +kernel
theorem d_A_digits_84 : decode c_A_digits 84 = .ok (.dup, 1) := by decide +kernel
theorem d_A_digits_85 : decode c_A_digits 85 = .ok (.getfield 26, 3) := by decide +kernel
theorem d_A_digits_88 : decode c_A_digits 88 = .ok (.iconst 1, 1) := by decide +kernel
theorem d_A_digits_89 : decode c_A_digits 89 = .ok (.iadd, 1) := by decide +kernel
theorem d_A_digits_90 : decode c_A_digits 90 = .ok (.putfield 26, 3) := by decide +kernel
theorem d_A_digits_93 : decode c_A_digits 93 = .ok (.goto (-77), 3) := by decide +kernel
theorem d_A_digits_96 : decode c_A_digits 96 = .ok (.aload_n 0, 1) := by decide +kernel
theorem d_A_digits_97 : decode c_A_digits 97 = .ok (.getfield 26, 3) := by decide +kernel
theorem d_A_digits_100 : decode c_A_digits 100 = .ok (.iload_n 2, 1) := by decide +kernel
theorem d_A_digits_101 : decode c_A_digits 101 = .ok (.if_icmp .ne 11, 3) := by decide +kernel
theorem d_A_digits_104 : decode c_A_digits 104 = .ok (.aload_n 0, 1) := by decide +kernel
theorem d_A_digits_105 : decode c_A_digits 105 = .ok (.aload_n 0, 1) := by decide +kernel
theorem d_A_digits_106 : decode c_A_digits 106 = .ok (.getfield 26, 3) := by decide +kernel
theorem d_A_digits_109 : decode c_A_digits 109 = .ok (.putfield 15, 3) := by decide +kernel
theorem d_A_digits_112 : decode c_A_digits 112 = .ok (.iload_n 3, 1) := by decide +kernel
theorem d_A_digits_113 : decode c_A_digits 113 = .ok (.ireturn, 1) := by decide +kernel
theorem kd_A_digits : (y_A_digits).cls = "WindowMachine$Assembler" ∧ (y_A_digits).cls ≠ "java/lang/invoke/MethodHandle" ∧ (y_A_digits).cls ≠ "java/lang/invoke/VarHandle" ∧ (parseMethodDescriptor (y_A_digits).desc).map (fun d => d.parameters.length) = some 1 := by decide +kernel
def fl_A_digits_16 (st : SA) (p0 : Int32) : Nat → Int32 → SA → Int32 × SA
  | 0, _, u_4 => (0, u_4)
  | n9 + 1, x_3, u_4 => (if (u_4.1 0) ≤ (u_4.1 1) then (if (u_4.1 1) = (st.1 1) then (x_3, (upd u_4.1 2 (u_4.1 1), u_4.2)) else (x_3, u_4)) else (if p0 ≤ ((u_4.1 1) - (st.1 1)) then (if (u_4.1 1) = (st.1 1) then (x_3, (upd u_4.1 2 (u_4.1 1), u_4.2)) else (x_3, u_4)) else (if (u_4.2 (u_4.1 1).toNatClampNeg) < (48 : Int32) then (if (u_4.1 1) = (st.1 1) then (x_3, (upd u_4.1 2 (u_4.1 1), u_4.2)) else (x_3, u_4)) else (if (57 : Int32) < (u_4.2 (u_4.1 1).toNatClampNeg) then (if (u_4.1 1) = (st.1 1) then (x_3, (upd u_4.1 2 (u_4.1 1), u_4.2)) else (x_3, u_4)) else (let x_14 := (((10 : Int32) * x_3) + (u_4.2 (u_4.1 1).toNatClampNeg)) - (48 : Int32); fl_A_digits_16 st p0 n9 x_14 (upd u_4.1 1 ((u_4.1 1) + (1 : Int32)), u_4.2))))))
def f_digits (st : SA) (p0 : Int32) : Int32 × SA := (if (f_isGood st) = (0 : Int32) then ((0 : Int32), st) else fl_A_digits_16 st p0 41 (0 : Int32) st)
set_option maxHeartbeats 4000000 in
set_option maxRecDepth 100000 in
theorem mt_A_digits (l : Launch) (D : va_G) (a b : Nat) (k : ClassId) (sz : Nat) (st : SA) (p0 : Int32) (hA9 : okA st) : Met l y_A_digits w_A_digits ({ frames := 1, cells := 0, slots := 0, locals := 20 }) (va_Pc [.ref a, .int p0] (zw_pre D vwCl [(k, .char)] sz (wA a b k st) (fun _ => True))) (va_Qi (fun r (u : SA) => r = (f_digits st p0).1 ∧ u = (f_digits st p0).2) (fun u t => zw_at D vwCl (va_A (wA a b k st) sz) ((fun (u : SA) => wA a b k u) u) t) (va_A (wA a b k st) sz)) 0 0 (va_A (wA a b k st) sz) := by
  refine zm (Qf := fun A => va_Qi (fun r (u : SA) => r = (f_digits st p0).1 ∧ u = (f_digits st p0).2) (fun u t => zw_at D vwCl A ((fun (u : SA) => wA a b k u) u) t) A) (Zf := fun _ _ => True) (cc := c_A_digits) (nL := 4) (ret := (some .int)) (by decide) rfl (Nat.le_of_ble_eq_true rfl) ?_
  intro p e s m below meth c9 A H locs ls hx hb hml hown hts hr hlocks hA hK hP hD hS hZ hl
  have hl : lv_has ls 4 [(0, .ref a), (1, .int p0)] := hl
  have ht : ∀ w9 ∈ zT, w9.before _ s = true := fun w9 h9 => hts w9 (List.mem_cons_of_mem _ h9)
  refine lv_aload_n hx hb d_A_digits_0 rfl (lv_at hl 0 rfl) ?_
  refine zc_i (w2 := fun _ => wA a b k st) (va_runV (As := []) (rest := []) ⟨hx, hb, hml, hown, ht⟩ (mt_A_isGood l D a b k H.size st) (cwV 0 ht (zgV zw_408 zw_410 zs_11 zw_3 zw_411) rfl rfl rfl kd_A_isGood ⟨Nat.le_of_ble_eq_true rfl, Nat.le_of_ble_eq_true rfl⟩) ⟨zw_blind zw_tt, va_recv (hK.sub (tys' := [(k, .char)]) [0] rfl) (hP.sub (ws' := wA a b k st) [0, 1] rfl) (ci := 0) (q0 := 0) rfl rfl, zw_go (hP.sub (ws' := wA a b k st) [0, 1] rfl) (hD.sub (ws' := wA a b k st) [0, 1] (by decide) rfl) (hK.sub (tys' := [(k, .char)]) [0] rfl) (fun _ _ _ => trivial)⟩ rfl rfl hl.1 rfl (lv_room (Nat.le_of_ble_eq_true rfl)) d_A_digits_1 ⟨Nat.le_of_ble_eq_true rfl, Nat.le_of_ble_eq_true rfl⟩) hP hD hS hA [0, 1] [] [0, 1] rfl rfl (by decide) (by decide) (by decide) (fun _ => rfl) (fun r_1 _ H locs hw hP hD hS => ?_)
  subst hw
  refine lv_if_ne (tgt := 9) hx hb d_A_digits_4 (by decide) (fun c_2 => ?_) (fun c_2 => ?_)
  · refine lv_aload_n hx hb d_A_digits_9 rfl (lv_at hl 0 rfl) ?_
    refine va_get (D := D) (ci := 0) (v := .int (st.1 1)) (C := "WindowMachine$Assembler") (T := T_A) (N := 5) hx hb ht zi_A hown hK hP 0 rfl rfl 2 (by decide) (ht _ zw_47) (fun _ h9 => h9) rfl d_A_digits_10 ?_
    refine lv_istore_n (lv' := [(2, .int (st.1 1)), (0, .ref a), (1, .int p0)]) hx hb d_A_digits_13 rfl hl (by decide) rfl (fun ls hl => ?_)
    refine lv_iconst (v := (0 : Int32)) hx hb d_A_digits_14 (by decide) ?_
    refine lv_istore_n (lv' := [(3, .int (0 : Int32)), (2, .int (st.1 1)), (0, .ref a), (1, .int p0)]) hx hb d_A_digits_15 rfl hl (by decide) rfl (fun ls hl => ?_)
    refine zloop (X := Int32 × SA) (G := fun n9 v9 H locs ls => f_digits st p0 = fl_A_digits_16 st p0 n9 v9.1 v9.2 ∧ (okA v9.2 ∧ ((v9.2).1 1).toInt + (n9 : Int) = (st.1 1).toInt + 41) ∧ va_P D vwCl (wA a b k v9.2) H ∧ va_D A (wA a b k v9.2) ∧ va_S A s.heap H locs ∧ lv_has ls 4 [(0, .ref a), (1, .int p0), (2, .int (st.1 1)), (3, .int v9.1)]) (fr := fun v9 ls => F0 m 16 ls []) (n := 41) (v := ((0 : Int32), st)) (fun n9 ih v9 H locs ls hG => ?_) (fun v9 H locs ls hG => ?_) ⟨(by simp only [f_digits, if_neg c_2]), ⟨hA9, by dsimp only; omega⟩, hP, hD, hS, (lv_sub hl [2, 3, 1, 0] rfl)⟩
    · obtain ⟨x_3, u_4⟩ := v9
      obtain ⟨hF_5, hI, hP, hD, hS, hl⟩ := hG
      dsimp only at hF_5 hI hP hD hl
      refine lv_aload_n hx hb d_A_digits_16 rfl (lv_at hl 0 rfl) ?_
      refine va_get (D := D) (ci := 0) (v := .int (u_4.1 1)) (C := "WindowMachine$Assembler") (T := T_A) (N := 5) hx hb ht zi_A hown hK hP 0 rfl rfl 2 (by decide) (ht _ zw_47) (fun _ h9 => h9) rfl d_A_digits_17 ?_
      refine lv_aload_n hx hb d_A_digits_20 rfl (lv_at hl 0 rfl) ?_
      refine va_get (D := D) (ci := 0) (v := .int (u_4.1 0)) (C := "WindowMachine$Assembler") (T := T_A) (N := 5) hx hb ht zi_A hown hK hP 0 rfl rfl 1 (by decide) (ht _ zw_46) (fun _ h9 => h9) rfl d_A_digits_21 ?_
      refine lv_icmp_ge (tgt := 96) hx hb d_A_digits_24 (by decide) (fun c_6 => ?_) (fun c_6 => ?_)
      · refine lv_aload_n hx hb d_A_digits_96 rfl (lv_at hl 0 rfl) ?_
        refine va_get (D := D) (ci := 0) (v := .int (u_4.1 1)) (C := "WindowMachine$Assembler") (T := T_A) (N := 5) hx hb ht zi_A hown hK hP 0 rfl rfl 2 (by decide) (ht _ zw_47) (fun _ h9 => h9) rfl d_A_digits_97 ?_
        refine lv_iload_n hx hb d_A_digits_100 rfl (lv_at hl 2 rfl) ?_
        refine lv_icmp_ne (tgt := 112) hx hb d_A_digits_101 (by decide) (fun c_7 => ?_) (fun c_7 => ?_)
        · refine lv_iload_n hx hb d_A_digits_112 rfl (lv_at hl 3 rfl) ?_
          exact zl_i (u := u_4) hx hb hr hlocks hS hP hD (⟨by rw [hF_5]; simp only [fl_A_digits_16, if_pos c_6, if_neg c_7], by rw [hF_5]; simp only [fl_A_digits_16, if_pos c_6, if_neg c_7]⟩) d_A_digits_113
        refine lv_aload_n hx hb d_A_digits_104 rfl (lv_at hl 0 rfl) ?_
        refine lv_aload_n hx hb d_A_digits_105 rfl (lv_at hl 0 rfl) ?_
        refine va_get (D := D) (ci := 0) (v := .int (u_4.1 1)) (C := "WindowMachine$Assembler") (T := T_A) (N := 5) hx hb ht zi_A hown hK hP 0 rfl rfl 2 (by decide) (ht _ zw_47) (fun _ h9 => h9) rfl d_A_digits_106 ?_
        refine va_put (D := D) (ci := 0) (v := .int (u_4.1 1)) (ty := .int) (C := "WindowMachine$Assembler") (T := T_A) (N := 5) hx hb ht zi_A ty_A tyok_A nm_A hown hK hP hD hS 0 rfl rfl 3 (by decide) (ht _ zw_48) (fun _ h9 => h9) rfl (by decide +kernel) rfl rfl (Nat.le_of_ble_eq_true rfl) d_A_digits_109 (fun H locs hP hD hS => ?_)
        have hP : va_P D vwCl (wA a b k (upd u_4.1 2 (u_4.1 1), u_4.2)) H := hP
        have hD : va_D A (wA a b k (upd u_4.1 2 (u_4.1 1), u_4.2)) := hD
        refine lv_iload_n hx hb d_A_digits_112 rfl (lv_at hl 3 rfl) ?_
        exact zl_i (u := (upd u_4.1 2 (u_4.1 1), u_4.2)) hx hb hr hlocks hS hP hD (⟨by rw [hF_5]; simp only [fl_A_digits_16, if_pos c_6, if_pos c_7], by rw [hF_5]; simp only [fl_A_digits_16, if_pos c_6, if_pos c_7]⟩) d_A_digits_113
      refine lv_aload_n hx hb d_A_digits_27 rfl (lv_at hl 0 rfl) ?_
      refine va_get (D := D) (ci := 0) (v := .int (u_4.1 1)) (C := "WindowMachine$Assembler") (T := T_A) (N := 5) hx hb ht zi_A hown hK hP 0 rfl rfl 2 (by decide) (ht _ zw_47) (fun _ h9 => h9) rfl d_A_digits_28 ?_
      refine lv_iload_n hx hb d_A_digits_31 rfl (lv_at hl 2 rfl) ?_
      refine lv_isub hx hb d_A_digits_32 ?_
      refine lv_iload_n hx hb d_A_digits_33 rfl (lv_at hl 1 rfl) ?_
      refine lv_icmp_ge (tgt := 96) hx hb d_A_digits_34 (by decide) (fun c_8 => ?_) (fun c_8 => ?_)
      · refine lv_aload_n hx hb d_A_digits_96 rfl (lv_at hl 0 rfl) ?_
        refine va_get (D := D) (ci := 0) (v := .int (u_4.1 1)) (C := "WindowMachine$Assembler") (T := T_A) (N := 5) hx hb ht zi_A hown hK hP 0 rfl rfl 2 (by decide) (ht _ zw_47) (fun _ h9 => h9) rfl d_A_digits_97 ?_
        refine lv_iload_n hx hb d_A_digits_100 rfl (lv_at hl 2 rfl) ?_
        refine lv_icmp_ne (tgt := 112) hx hb d_A_digits_101 (by decide) (fun c_9 => ?_) (fun c_9 => ?_)
        · refine lv_iload_n hx hb d_A_digits_112 rfl (lv_at hl 3 rfl) ?_
          exact zl_i (u := u_4) hx hb hr hlocks hS hP hD (⟨by rw [hF_5]; simp only [fl_A_digits_16, if_neg c_6, if_pos c_8, if_neg c_9], by rw [hF_5]; simp only [fl_A_digits_16, if_neg c_6, if_pos c_8, if_neg c_9]⟩) d_A_digits_113
        refine lv_aload_n hx hb d_A_digits_104 rfl (lv_at hl 0 rfl) ?_
        refine lv_aload_n hx hb d_A_digits_105 rfl (lv_at hl 0 rfl) ?_
        refine va_get (D := D) (ci := 0) (v := .int (u_4.1 1)) (C := "WindowMachine$Assembler") (T := T_A) (N := 5) hx hb ht zi_A hown hK hP 0 rfl rfl 2 (by decide) (ht _ zw_47) (fun _ h9 => h9) rfl d_A_digits_106 ?_
        refine va_put (D := D) (ci := 0) (v := .int (u_4.1 1)) (ty := .int) (C := "WindowMachine$Assembler") (T := T_A) (N := 5) hx hb ht zi_A ty_A tyok_A nm_A hown hK hP hD hS 0 rfl rfl 3 (by decide) (ht _ zw_48) (fun _ h9 => h9) rfl (by decide +kernel) rfl rfl (Nat.le_of_ble_eq_true rfl) d_A_digits_109 (fun H locs hP hD hS => ?_)
        have hP : va_P D vwCl (wA a b k (upd u_4.1 2 (u_4.1 1), u_4.2)) H := hP
        have hD : va_D A (wA a b k (upd u_4.1 2 (u_4.1 1), u_4.2)) := hD
        refine lv_iload_n hx hb d_A_digits_112 rfl (lv_at hl 3 rfl) ?_
        exact zl_i (u := (upd u_4.1 2 (u_4.1 1), u_4.2)) hx hb hr hlocks hS hP hD (⟨by rw [hF_5]; simp only [fl_A_digits_16, if_neg c_6, if_pos c_8, if_pos c_9], by rw [hF_5]; simp only [fl_A_digits_16, if_neg c_6, if_pos c_8, if_pos c_9]⟩) d_A_digits_113
      refine lv_aload_n hx hb d_A_digits_37 rfl (lv_at hl 0 rfl) ?_
      refine va_get (D := D) (ci := 0) (v := .ref b) (C := "WindowMachine$Assembler") (T := T_A) (N := 5) hx hb ht zi_A hown hK hP 0 rfl rfl 0 (by decide) (ht _ zw_44) (fun _ h9 => h9) rfl d_A_digits_38 ?_
      refine lv_aload_n hx hb d_A_digits_41 rfl (lv_at hl 0 rfl) ?_
      refine va_get (D := D) (ci := 0) (v := .int (u_4.1 1)) (C := "WindowMachine$Assembler") (T := T_A) (N := 5) hx hb ht zi_A hown hK hP 0 rfl rfl 2 (by decide) (ht _ zw_47) (fun _ h9 => h9) rfl d_A_digits_42 ?_
      refine va_cald hx hb hK hP 1 0 rfl rfl (at_in hI.1 c_6) d_A_digits_45 ?_
      refine lv_bipush (v := (48 : Int32)) hx hb d_A_digits_46 (by decide) ?_
      refine lv_icmp_lt (tgt := 96) hx hb d_A_digits_48 (by decide) (fun c_10 => ?_) (fun c_10 => ?_)
      · refine lv_aload_n hx hb d_A_digits_96 rfl (lv_at hl 0 rfl) ?_
        refine va_get (D := D) (ci := 0) (v := .int (u_4.1 1)) (C := "WindowMachine$Assembler") (T := T_A) (N := 5) hx hb ht zi_A hown hK hP 0 rfl rfl 2 (by decide) (ht _ zw_47) (fun _ h9 => h9) rfl d_A_digits_97 ?_
        refine lv_iload_n hx hb d_A_digits_100 rfl (lv_at hl 2 rfl) ?_
        refine lv_icmp_ne (tgt := 112) hx hb d_A_digits_101 (by decide) (fun c_11 => ?_) (fun c_11 => ?_)
        · refine lv_iload_n hx hb d_A_digits_112 rfl (lv_at hl 3 rfl) ?_
          exact zl_i (u := u_4) hx hb hr hlocks hS hP hD (⟨by rw [hF_5]; simp only [fl_A_digits_16, if_neg c_6, if_neg c_8, if_pos c_10, if_neg c_11], by rw [hF_5]; simp only [fl_A_digits_16, if_neg c_6, if_neg c_8, if_pos c_10, if_neg c_11]⟩) d_A_digits_113
        refine lv_aload_n hx hb d_A_digits_104 rfl (lv_at hl 0 rfl) ?_
        refine lv_aload_n hx hb d_A_digits_105 rfl (lv_at hl 0 rfl) ?_
        refine va_get (D := D) (ci := 0) (v := .int (u_4.1 1)) (C := "WindowMachine$Assembler") (T := T_A) (N := 5) hx hb ht zi_A hown hK hP 0 rfl rfl 2 (by decide) (ht _ zw_47) (fun _ h9 => h9) rfl d_A_digits_106 ?_
        refine va_put (D := D) (ci := 0) (v := .int (u_4.1 1)) (ty := .int) (C := "WindowMachine$Assembler") (T := T_A) (N := 5) hx hb ht zi_A ty_A tyok_A nm_A hown hK hP hD hS 0 rfl rfl 3 (by decide) (ht _ zw_48) (fun _ h9 => h9) rfl (by decide +kernel) rfl rfl (Nat.le_of_ble_eq_true rfl) d_A_digits_109 (fun H locs hP hD hS => ?_)
        have hP : va_P D vwCl (wA a b k (upd u_4.1 2 (u_4.1 1), u_4.2)) H := hP
        have hD : va_D A (wA a b k (upd u_4.1 2 (u_4.1 1), u_4.2)) := hD
        refine lv_iload_n hx hb d_A_digits_112 rfl (lv_at hl 3 rfl) ?_
        exact zl_i (u := (upd u_4.1 2 (u_4.1 1), u_4.2)) hx hb hr hlocks hS hP hD (⟨by rw [hF_5]; simp only [fl_A_digits_16, if_neg c_6, if_neg c_8, if_pos c_10, if_pos c_11], by rw [hF_5]; simp only [fl_A_digits_16, if_neg c_6, if_neg c_8, if_pos c_10, if_pos c_11]⟩) d_A_digits_113
      refine lv_aload_n hx hb d_A_digits_51 rfl (lv_at hl 0 rfl) ?_
      refine va_get (D := D) (ci := 0) (v := .ref b) (C := "WindowMachine$Assembler") (T := T_A) (N := 5) hx hb ht zi_A hown hK hP 0 rfl rfl 0 (by decide) (ht _ zw_44) (fun _ h9 => h9) rfl d_A_digits_52 ?_
      refine lv_aload_n hx hb d_A_digits_55 rfl (lv_at hl 0 rfl) ?_
      refine va_get (D := D) (ci := 0) (v := .int (u_4.1 1)) (C := "WindowMachine$Assembler") (T := T_A) (N := 5) hx hb ht zi_A hown hK hP 0 rfl rfl 2 (by decide) (ht _ zw_47) (fun _ h9 => h9) rfl d_A_digits_56 ?_
      refine va_cald hx hb hK hP 1 0 rfl rfl (at_in hI.1 c_6) d_A_digits_59 ?_
      refine lv_bipush (v := (57 : Int32)) hx hb d_A_digits_60 (by decide) ?_
      refine lv_icmp_gt (tgt := 96) hx hb d_A_digits_62 (by decide) (fun c_12 => ?_) (fun c_12 => ?_)
      · refine lv_aload_n hx hb d_A_digits_96 rfl (lv_at hl 0 rfl) ?_
        refine va_get (D := D) (ci := 0) (v := .int (u_4.1 1)) (C := "WindowMachine$Assembler") (T := T_A) (N := 5) hx hb ht zi_A hown hK hP 0 rfl rfl 2 (by decide) (ht _ zw_47) (fun _ h9 => h9) rfl d_A_digits_97 ?_
        refine lv_iload_n hx hb d_A_digits_100 rfl (lv_at hl 2 rfl) ?_
        refine lv_icmp_ne (tgt := 112) hx hb d_A_digits_101 (by decide) (fun c_13 => ?_) (fun c_13 => ?_)
        · refine lv_iload_n hx hb d_A_digits_112 rfl (lv_at hl 3 rfl) ?_
          exact zl_i (u := u_4) hx hb hr hlocks hS hP hD (⟨by rw [hF_5]; simp only [fl_A_digits_16, if_neg c_6, if_neg c_8, if_neg c_10, if_pos c_12, if_neg c_13], by rw [hF_5]; simp only [fl_A_digits_16, if_neg c_6, if_neg c_8, if_neg c_10, if_pos c_12, if_neg c_13]⟩) d_A_digits_113
        refine lv_aload_n hx hb d_A_digits_104 rfl (lv_at hl 0 rfl) ?_
        refine lv_aload_n hx hb d_A_digits_105 rfl (lv_at hl 0 rfl) ?_
        refine va_get (D := D) (ci := 0) (v := .int (u_4.1 1)) (C := "WindowMachine$Assembler") (T := T_A) (N := 5) hx hb ht zi_A hown hK hP 0 rfl rfl 2 (by decide) (ht _ zw_47) (fun _ h9 => h9) rfl d_A_digits_106 ?_
        refine va_put (D := D) (ci := 0) (v := .int (u_4.1 1)) (ty := .int) (C := "WindowMachine$Assembler") (T := T_A) (N := 5) hx hb ht zi_A ty_A tyok_A nm_A hown hK hP hD hS 0 rfl rfl 3 (by decide) (ht _ zw_48) (fun _ h9 => h9) rfl (by decide +kernel) rfl rfl (Nat.le_of_ble_eq_true rfl) d_A_digits_109 (fun H locs hP hD hS => ?_)
        have hP : va_P D vwCl (wA a b k (upd u_4.1 2 (u_4.1 1), u_4.2)) H := hP
        have hD : va_D A (wA a b k (upd u_4.1 2 (u_4.1 1), u_4.2)) := hD
        refine lv_iload_n hx hb d_A_digits_112 rfl (lv_at hl 3 rfl) ?_
        exact zl_i (u := (upd u_4.1 2 (u_4.1 1), u_4.2)) hx hb hr hlocks hS hP hD (⟨by rw [hF_5]; simp only [fl_A_digits_16, if_neg c_6, if_neg c_8, if_neg c_10, if_pos c_12, if_pos c_13], by rw [hF_5]; simp only [fl_A_digits_16, if_neg c_6, if_neg c_8, if_neg c_10, if_pos c_12, if_pos c_13]⟩) d_A_digits_113
      refine lv_bipush (v := (10 : Int32)) hx hb d_A_digits_65 (by decide) ?_
      refine lv_iload_n hx hb d_A_digits_67 rfl (lv_at hl 3 rfl) ?_
      refine lv_imul hx hb d_A_digits_68 ?_
      refine lv_aload_n hx hb d_A_digits_69 rfl (lv_at hl 0 rfl) ?_
      refine va_get (D := D) (ci := 0) (v := .ref b) (C := "WindowMachine$Assembler") (T := T_A) (N := 5) hx hb ht zi_A hown hK hP 0 rfl rfl 0 (by decide) (ht _ zw_44) (fun _ h9 => h9) rfl d_A_digits_70 ?_
      refine lv_aload_n hx hb d_A_digits_73 rfl (lv_at hl 0 rfl) ?_
      refine va_get (D := D) (ci := 0) (v := .int (u_4.1 1)) (C := "WindowMachine$Assembler") (T := T_A) (N := 5) hx hb ht zi_A hown hK hP 0 rfl rfl 2 (by decide) (ht _ zw_47) (fun _ h9 => h9) rfl d_A_digits_74 ?_
      refine va_cald hx hb hK hP 1 0 rfl rfl (at_in hI.1 c_6) d_A_digits_77 ?_
      refine lv_iadd hx hb d_A_digits_78 ?_
      refine lv_bipush (v := (48 : Int32)) hx hb d_A_digits_79 (by decide) ?_
      refine lv_isub hx hb d_A_digits_81 ?_
      refine lv_topi (fun x_14 ex_14 => ?_)
      refine lv_istore_n (lv' := [(3, .int x_14), (0, .ref a), (1, .int p0), (2, .int (st.1 1))]) hx hb d_A_digits_82 rfl hl (by decide) rfl (fun ls hl => ?_)
      refine lv_aload_n hx hb d_A_digits_83 rfl (lv_at hl 1 rfl) ?_
      refine lv_dup hx hb d_A_digits_84 rfl ?_
      refine va_get (D := D) (ci := 0) (v := .int (u_4.1 1)) (C := "WindowMachine$Assembler") (T := T_A) (N := 5) hx hb ht zi_A hown hK hP 0 rfl rfl 2 (by decide) (ht _ zw_47) (fun _ h9 => h9) rfl d_A_digits_85 ?_
      refine lv_iconst (v := (1 : Int32)) hx hb d_A_digits_88 (by decide) ?_
      refine lv_iadd hx hb d_A_digits_89 ?_
      refine va_put (D := D) (ci := 0) (v := .int ((u_4.1 1) + (1 : Int32))) (ty := .int) (C := "WindowMachine$Assembler") (T := T_A) (N := 5) hx hb ht zi_A ty_A tyok_A nm_A hown hK hP hD hS 0 rfl rfl 2 (by decide) (ht _ zw_47) (fun _ h9 => h9) rfl (by decide +kernel) rfl rfl (Nat.le_of_ble_eq_true rfl) d_A_digits_90 (fun H locs hP hD hS => ?_)
      have hP : va_P D vwCl (wA a b k (upd u_4.1 1 ((u_4.1 1) + (1 : Int32)), u_4.2)) H := hP
      have hD : va_D A (wA a b k (upd u_4.1 1 ((u_4.1 1) + (1 : Int32)), u_4.2)) := hD
      refine lv_goto (tgt := 16) hx hb d_A_digits_93 (by decide) ?_
      exact ih (x_14, (upd u_4.1 1 ((u_4.1 1) + (1 : Int32)), u_4.2)) _ _ _ ⟨by subst ex_14; rw [hF_5]; simp only [fl_A_digits_16, if_neg c_6, if_neg c_8, if_neg c_10, if_neg c_12], ⟨ok_at hI.1 c_6, at_back hI c_6⟩, hP, hD, hS, (lv_sub hl [1, 2, 3, 0] rfl)⟩
    · obtain ⟨x_3, u_4⟩ := v9
      obtain ⟨-, hI, -⟩ := hG
      dsimp only at hI
      exact (by obtain ⟨⟨h1, h2, h3⟩, h4⟩ := hI; have := hA9.1; omega)
  refine lv_iconst (v := (0 : Int32)) hx hb d_A_digits_7 (by decide) ?_
  exact zl_i (u := st) hx hb hr hlocks hS hP hD (⟨by simp only [f_digits, if_pos c_2], by simp only [f_digits, if_pos c_2]⟩) d_A_digits_8
theorem ok_digitsL {st : SA} {p : Int32} : ∀ (n : Nat) (x : Int32) (u : SA), okA u → okA (fl_A_digits_16 st p n x u).2 := by
  intro n
  induction n with
  | zero => intro x u h; exact h
  | succ n ih =>
    intro x u h
    unfold fl_A_digits_16
    split
    · split <;> exact h
    · split
      · split <;> exact h
      · split
        · split <;> exact h
        · split
          · split <;> exact h
          · exact ih _ _ (ok_at h ‹_›)
theorem ok_digits {st : SA} {p : Int32} (h : okA st) : okA (f_digits st p).2 := by
  unfold f_digits
  split
  · exact h
  · exact ok_digitsL _ _ _ h
theorem d_A_registerNumber_0 : decode c_A_registerNumber 0 = .ok (.aload_n 0, 1) := by decide +kernel
theorem d_A_registerNumber_1 : decode c_A_registerNumber 1 = .ok (.getfield 26, 3) := by decide +kernel
theorem d_A_registerNumber_4 : decode c_A_registerNumber 4 = .ok (.istore_n 1, 1) := by decide +kernel
theorem d_A_registerNumber_5 : decode c_A_registerNumber 5 = .ok (.aload_n 0, 1) := by decide +kernel
theorem d_A_registerNumber_6 : decode c_A_registerNumber 6 = .ok (.bipush 37, 2) := by decide +kernel
theorem d_A_registerNumber_8 : decode c_A_registerNumber 8 = .ok (.invokevirtual 102, 3) := by decide +kernel
theorem d_A_registerNumber_11 : decode c_A_registerNumber 11 = .ok (.aload_n 0, 1) := by decide +kernel
theorem d_A_registerNumber_12 : decode c_A_registerNumber 12 = .ok (.iconst 2, 1) := by decide +kernel
theorem d_A_registerNumber_13 : decode c_A_registerNumber 13 = .ok (.invokevirtual 131, 3) := by decide +kernel
theorem d_A_registerNumber_16 : decode c_A_registerNumber 16 = .ok (.istore_n 2, 1) := by decide +kernel
theorem d_A_registerNumber_17 : decode c_A_registerNumber 17 = .ok (.aload_n 0, 1) := by decide +kernel
theorem d_A_registerNumber_18 : decode c_A_registerNumber 18 = .ok (.iload_n 2, 1) := by decide +kernel
theorem d_A_registerNumber_19 : decode c_A_registerNumber 19 = .ok (.iconst 0, 1) := by decide +kernel
theorem d_A_registerNumber_20 : decode c_A_registerNumber 20 = .ok (.bipush 31, 2) := by decide +kernel
theorem d_A_registerNumber_22 : decode c_A_registerNumber 22 = .ok (.iload_n 1, 1) := by decide +kernel
theorem d_A_registerNumber_23 : decode c_A_registerNumber 23 = .ok (.invokevirtual 134, 3) := by decide +kernel
theorem d_A_registerNumber_26 : decode c_A_registerNumber 26 = .ok (.iload_n 2, 1) := by decide +kernel
theorem d_A_registerNumber_27 : decode c_A_registerNumber 27 = .ok (.ireturn, 1) := by decide +kernel
theorem kd_A_registerNumber : (y_A_registerNumber).cls = "WindowMachine$Assembler" ∧ (y_A_registerNumber).cls ≠ "java/lang/invoke/MethodHandle" ∧ (y_A_registerNumber).cls ≠ "java/lang/invoke/VarHandle" ∧ (parseMethodDescriptor (y_A_registerNumber).desc).map (fun d => d.parameters.length) = some 0 := by decide +kernel
def f_registerNumber (st : SA) : Int32 × SA := (let u_1 := f_expect st (37 : Int32); (let r_2 := (f_digits u_1 (2 : Int32)).1; (let u_2 := (f_digits u_1 (2 : Int32)).2; (let u_3 := f_checkRange u_2 r_2 (0 : Int32) (31 : Int32) (st.1 1); (r_2, u_3)))))
set_option maxHeartbeats 4000000 in
set_option maxRecDepth 100000 in
theorem mt_A_registerNumber (l : Launch) (D : va_G) (a b : Nat) (k : ClassId) (sz : Nat) (st : SA) (hA9 : okA st) : Met l y_A_registerNumber w_A_registerNumber ({ frames := 2, cells := 0, slots := 0, locals := 44 }) (va_Pc [.ref a] (zw_pre D vwCl [(k, .char)] sz (wA a b k st) (fun _ => True))) (va_Qi (fun r (u : SA) => r = (f_registerNumber st).1 ∧ u = (f_registerNumber st).2) (fun u t => zw_at D vwCl (va_A (wA a b k st) sz) ((fun (u : SA) => wA a b k u) u) t) (va_A (wA a b k st) sz)) 0 0 (va_A (wA a b k st) sz) := by
  refine zm (Qf := fun A => va_Qi (fun r (u : SA) => r = (f_registerNumber st).1 ∧ u = (f_registerNumber st).2) (fun u t => zw_at D vwCl A ((fun (u : SA) => wA a b k u) u) t) A) (Zf := fun _ _ => True) (cc := c_A_registerNumber) (nL := 3) (ret := (some .int)) (by decide) rfl (Nat.le_of_ble_eq_true rfl) ?_
  intro p e s m below meth c9 A H locs ls hx hb hml hown hts hr hlocks hA hK hP hD hS hZ hl
  have hl : lv_has ls 3 [(0, .ref a)] := hl
  have ht : ∀ w9 ∈ zT, w9.before _ s = true := fun w9 h9 => hts w9 (List.mem_cons_of_mem _ h9)
  refine lv_aload_n hx hb d_A_registerNumber_0 rfl (lv_at hl 0 rfl) ?_
  refine va_get (D := D) (ci := 0) (v := .int (st.1 1)) (C := "WindowMachine$Assembler") (T := T_A) (N := 5) hx hb ht zi_A hown hK hP 0 rfl rfl 2 (by decide) (ht _ zw_47) (fun _ h9 => h9) rfl d_A_registerNumber_1 ?_
  refine lv_istore_n (lv' := [(1, .int (st.1 1)), (0, .ref a)]) hx hb d_A_registerNumber_4 rfl hl (by decide) rfl (fun ls hl => ?_)
  refine lv_aload_n hx hb d_A_registerNumber_5 rfl (lv_at hl 1 rfl) ?_
  refine lv_bipush (v := (37 : Int32)) hx hb d_A_registerNumber_6 (by decide) ?_
  refine zc_v (w2 := fun u9 => wA a b k u9) (va_runV (As := [.int (37 : Int32)]) (rest := []) ⟨hx, hb, hml, hown, ht⟩ (mt_A_expect l D a b k H.size st (37 : Int32) hA9) (cwV 1 ht (zgV zw_404 zw_406 zs_10 zw_3 zw_407) rfl rfl rfl kd_A_expect ⟨Nat.le_of_ble_eq_true rfl, Nat.le_of_ble_eq_true rfl⟩) ⟨zw_blind zw_tt, va_recv (hK.sub (tys' := [(k, .char)]) [0] rfl) (hP.sub (ws' := wA a b k st) [0, 1] rfl) (ci := 0) (q0 := 0) rfl rfl, zw_go (hP.sub (ws' := wA a b k st) [0, 1] rfl) (hD.sub (ws' := wA a b k st) [0, 1] (by decide) rfl) (hK.sub (tys' := [(k, .char)]) [0] rfl) (fun _ _ _ => trivial)⟩ rfl rfl hl.1 rfl (lv_room (Nat.le_of_ble_eq_true rfl)) d_A_registerNumber_8 ⟨Nat.le_of_ble_eq_true rfl, Nat.le_of_ble_eq_true rfl⟩) hP hD hS hA [0, 1] [] [0, 1] rfl rfl (by decide) (by decide) (by decide) (fun _ => rfl) (fun u_1 H locs hw hP hD hS => ?_)
  have eu_1 := hw
  have ok_1 : okA u_1 := by rw [eu_1]; exact (ok_expect hA9)
  refine lv_aload_n hx hb d_A_registerNumber_11 rfl (lv_at hl 1 rfl) ?_
  refine lv_iconst (v := (2 : Int32)) hx hb d_A_registerNumber_12 (by decide) ?_
  refine zc_i (w2 := fun u9 => wA a b k u9) (va_runV (As := [.int (2 : Int32)]) (rest := []) ⟨hx, hb, hml, hown, ht⟩ (mt_A_digits l D a b k H.size u_1 (2 : Int32) ok_1) (cwV 1 ht (zgV zw_420 zw_422 zs_14 zw_3 zw_423) rfl rfl rfl kd_A_digits ⟨Nat.le_of_ble_eq_true rfl, Nat.le_of_ble_eq_true rfl⟩) ⟨zw_blind zw_tt, va_recv (hK.sub (tys' := [(k, .char)]) [0] rfl) (hP.sub (ws' := wA a b k u_1) [0, 1] rfl) (ci := 0) (q0 := 0) rfl rfl, zw_go (hP.sub (ws' := wA a b k u_1) [0, 1] rfl) (hD.sub (ws' := wA a b k u_1) [0, 1] (by decide) rfl) (hK.sub (tys' := [(k, .char)]) [0] rfl) (fun _ _ _ => trivial)⟩ rfl rfl hl.1 rfl (lv_room (Nat.le_of_ble_eq_true rfl)) d_A_registerNumber_13 ⟨Nat.le_of_ble_eq_true rfl, Nat.le_of_ble_eq_true rfl⟩) hP hD hS hA [0, 1] [] [0, 1] rfl rfl (by decide) (by decide) (by decide) (fun _ => rfl) (fun r_2 u_2 H locs hw hP hD hS => ?_)
  obtain ⟨er_2, eu_2⟩ := hw
  have ok_2 : okA u_2 := by rw [eu_2]; exact (ok_digits ok_1)
  refine lv_istore_n (lv' := [(2, .int r_2), (1, .int (st.1 1)), (0, .ref a)]) hx hb d_A_registerNumber_16 rfl hl (by decide) rfl (fun ls hl => ?_)
  refine lv_aload_n hx hb d_A_registerNumber_17 rfl (lv_at hl 2 rfl) ?_
  refine lv_iload_n hx hb d_A_registerNumber_18 rfl (lv_at hl 0 rfl) ?_
  refine lv_iconst (v := (0 : Int32)) hx hb d_A_registerNumber_19 (by decide) ?_
  refine lv_bipush (v := (31 : Int32)) hx hb d_A_registerNumber_20 (by decide) ?_
  refine lv_iload_n hx hb d_A_registerNumber_22 rfl (lv_at hl 1 rfl) ?_
  refine zc_v (w2 := fun u9 => wA a b k u9) (va_runV (As := [.int r_2, .int (0 : Int32), .int (31 : Int32), .int (st.1 1)]) (rest := []) ⟨hx, hb, hml, hown, ht⟩ (mt_A_checkRange l D a b k H.size u_2 r_2 (0 : Int32) (31 : Int32) (st.1 1) ok_2) (cwV 4 ht (zgV zw_424 zw_426 zs_15 zw_3 zw_427) rfl rfl rfl kd_A_checkRange ⟨Nat.le_of_ble_eq_true rfl, Nat.le_of_ble_eq_true rfl⟩) ⟨zw_blind zw_tt, va_recv (hK.sub (tys' := [(k, .char)]) [0] rfl) (hP.sub (ws' := wA a b k u_2) [0, 1] rfl) (ci := 0) (q0 := 0) rfl rfl, zw_go (hP.sub (ws' := wA a b k u_2) [0, 1] rfl) (hD.sub (ws' := wA a b k u_2) [0, 1] (by decide) rfl) (hK.sub (tys' := [(k, .char)]) [0] rfl) (fun _ _ _ => trivial)⟩ rfl rfl hl.1 rfl (lv_room (Nat.le_of_ble_eq_true rfl)) d_A_registerNumber_23 ⟨Nat.le_of_ble_eq_true rfl, Nat.le_of_ble_eq_true rfl⟩) hP hD hS hA [0, 1] [] [0, 1] rfl rfl (by decide) (by decide) (by decide) (fun _ => rfl) (fun u_3 H locs hw hP hD hS => ?_)
  have eu_3 := hw
  have ok_3 : okA u_3 := by rw [eu_3]; exact (ok_checkRange ok_2)
  refine lv_iload_n hx hb d_A_registerNumber_26 rfl (lv_at hl 0 rfl) ?_
  exact zl_i (u := u_3) hx hb hr hlocks hS hP hD (⟨by subst eu_1; subst er_2; subst eu_2; subst eu_3; simp only [f_registerNumber], by subst eu_1; subst er_2; subst eu_2; subst eu_3; simp only [f_registerNumber]⟩) d_A_registerNumber_27
theorem d_A_number_0 : decode c_A_number 0 = .ok (.aload_n 0, 1) := by decide +kernel
theorem d_A_number_1 : decode c_A_number 1 = .ok (.getfield 26, 3) := by decide +kernel
theorem d_A_number_4 : decode c_A_number 4 = .ok (.istore_n 3, 1) := by decide +kernel
theorem d_A_number_5 : decode c_A_number 5 = .ok (.aload_n 0, 1) := by decide +kernel
theorem d_A_number_6 : decode c_A_number 6 = .ok (.invokevirtual 36, 3) := by decide +kernel
theorem d_A_number_9 : decode c_A_number 9 = .ok (.ifCond .eq 32, 3) := by decide +kernel
theorem d_A_number_12 : decode c_A_number 12 = .ok (.aload_n 0, 1) := by decide +kernel
theorem d_A_number_13 : decode c_A_number 13 = .ok (.getfield 26, 3) := by decide +kernel
theorem d_A_number_16 : decode c_A_number 16 = .ok (.aload_n 0, 1) := by decide +kernel
theorem d_A_number_17 : decode c_A_number 17 = .ok (.getfield 23, 3) := by decide +kernel
theorem d_A_number_20 : decode c_A_number 20 = .ok (.if_icmp .ge 21, 3) := by decide +kernel
theorem d_A_number_23 : decode c_A_number 23 = .ok (.aload_n 0, 1) := by decide +kernel
theorem d_A_number_24 : decode c_A_number 24 = .ok (.getfield 11, 3) := by decide +kernel
theorem d_A_number_27 : decode c_A_number 27 = .ok (.aload_n 0, 1) := by decide +kernel
theorem d_A_number_28 : decode c_A_number 28 = .ok (.getfield 26, 3) := by decide +kernel
theorem d_A_number_31 : decode c_A_number 31 = .ok (.caload, 1) := by decide +kernel
theorem d_A_number_32 : decode c_A_number 32 = .ok (.bipush 45, 2) := by decide +kernel
theorem d_A_number_34 : decode c_A_number 34 = .ok (.if_icmp .ne 7, 3) := by decide +kernel
theorem d_A_number_37 : decode c_A_number 37 = .ok (.iconst 1, 1) := by decide +kernel
theorem d_A_number_38 : decode c_A_number 38 = .ok (.goto 4, 3) := by decide +kernel
theorem d_A_number_41 : decode c_A_number 41 = .ok (.iconst 0, 1) := by decide +kernel
theorem d_A_number_42 : decode c_A_number 42 = .ok (.istore 4, 2) := by decide +kernel
theorem d_A_number_44 : decode c_A_number 44 = .ok (.iload 4, 2) := by decide +kernel
theorem d_A_number_46 : decode c_A_number 46 = .ok (.ifCond .eq 13, 3) := by decide +kernel
theorem d_A_number_49 : decode c_A_number 49 = .ok (.aload_n 0, 1) := by decide +kernel
theorem d_A_number_50 : decode c_A_number 50 = .ok (.dup, 1) := by decide +kernel
theorem d_A_number_51 : decode c_A_number 51 = .ok (.getfield 26, 3) := by decide +kernel
theorem d_A_number_54 : decode c_A_number 54 = .ok (.iconst 1, 1) := by decide +kernel
theorem d_A_number_55 : decode c_A_number 55 = .ok (.iadd, 1) := by decide +kernel
theorem d_A_number_56 : decode c_A_number 56 = .ok (.putfield 26, 3) := by decide +kernel
theorem d_A_number_59 : decode c_A_number 59 = .ok (.aload_n 0, 1) := by decide +kernel
theorem d_A_number_60 : decode c_A_number 60 = .ok (.bipush 9, 2) := by decide +kernel
theorem d_A_number_62 : decode c_A_number 62 = .ok (.invokevirtual 131, 3) := by decide +kernel
theorem d_A_number_65 : decode c_A_number 65 = .ok (.istore 5, 2) := by decide +kernel
theorem d_A_number_67 : decode c_A_number 67 = .ok (.iload 4, 2) := by decide +kernel
theorem d_A_number_69 : decode c_A_number 69 = .ok (.ifCond .eq 9, 3) := by decide +kernel
theorem d_A_number_72 : decode c_A_number 72 = .ok (.iload 5, 2) := by decide +kernel
theorem d_A_number_74 : decode c_A_number 74 = .ok (.ineg, 1) := by decide +kernel
theorem d_A_number_75 : decode c_A_number 75 = .ok (.goto 5, 3) := by decide +kernel
theorem d_A_number_78 : decode c_A_number 78 = .ok (.iload 5, 2) := by decide +kernel
theorem d_A_number_80 : decode c_A_number 80 = .ok (.istore 6, 2) := by decide +kernel
theorem d_A_number_82 : decode c_A_number 82 = .ok (.aload_n 0, 1) := by decide +kernel
theorem d_A_number_83 : decode c_A_number 83 = .ok (.iload 6, 2) := by decide +kernel
theorem d_A_number_85 : decode c_A_number 85 = .ok (.iload_n 1, 1) := by decide +kernel
theorem d_A_number_86 : decode c_A_number 86 = .ok (.iload_n 2, 1) := by decide +kernel
theorem d_A_number_87 : decode c_A_number 87 = .ok (.iload_n 3, 1) := by decide +kernel
theorem d_A_number_88 : decode c_A_number 88 = .ok (.invokevirtual 134, 3) := by decide +kernel
theorem d_A_number_91 : decode c_A_number 91 = .ok (.iload 6, 2) := by decide +kernel
theorem d_A_number_93 : decode c_A_number 93 = .ok (.iload_n 2, 1) := by decide +kernel
theorem d_A_number_94 : decode c_A_number 94 = .ok (.iload_n 1, 1) := by decide +kernel
theorem d_A_number_95 : decode c_A_number 95 = .ok (.isub, 1) := by decide +kernel
theorem d_A_number_96 : decode c_A_number 96 = .ok (.iand, 1) := by decide +kernel
theorem d_A_number_97 : decode c_A_number 97 = .ok (.ireturn, 1) := by decide +kernel
theorem kd_A_number : (y_A_number).cls = "WindowMachine$Assembler" ∧ (y_A_number).cls ≠ "java/lang/invoke/MethodHandle" ∧ (y_A_number).cls ≠ "java/lang/invoke/VarHandle" ∧ (parseMethodDescriptor (y_A_number).desc).map (fun d => d.parameters.length) = some 2 := by decide +kernel
def f_number (st : SA) (p0 : Int32) (p1 : Int32) : Int32 × SA := (let x_2 := (if (f_isGood st) = (0 : Int32) then (0 : Int32) else (if (st.1 0) ≤ (st.1 1) then (0 : Int32) else (if (st.2 (st.1 1).toNatClampNeg) = (45 : Int32) then (1 : Int32) else (0 : Int32)))); (let u_7 := (if x_2 = (0 : Int32) then st else (upd st.1 1 ((st.1 1) + (1 : Int32)), st.2)); (let r_10 := (f_digits u_7 (9 : Int32)).1; (let u_10 := (f_digits u_7 (9 : Int32)).2; (let x_11 := (if x_2 = (0 : Int32) then r_10 else -r_10); (let u_14 := f_checkRange u_10 x_11 p0 p1 (st.1 1); (x_11 &&& (p1 - p0), u_14)))))))
set_option maxHeartbeats 4000000 in
set_option maxRecDepth 100000 in
theorem mt_A_number (l : Launch) (D : va_G) (a b : Nat) (k : ClassId) (sz : Nat) (st : SA) (p0 : Int32) (p1 : Int32) (hA9 : okA st) : Met l y_A_number w_A_number ({ frames := 2, cells := 0, slots := 0, locals := 44 }) (va_Pc [.ref a, .int p0, .int p1] (zw_pre D vwCl [(k, .char)] sz (wA a b k st) (fun _ => True))) (va_Qi (fun r (u : SA) => r = (f_number st p0 p1).1 ∧ u = (f_number st p0 p1).2) (fun u t => zw_at D vwCl (va_A (wA a b k st) sz) ((fun (u : SA) => wA a b k u) u) t) (va_A (wA a b k st) sz)) 0 0 (va_A (wA a b k st) sz) := by
  refine zm (Qf := fun A => va_Qi (fun r (u : SA) => r = (f_number st p0 p1).1 ∧ u = (f_number st p0 p1).2) (fun u t => zw_at D vwCl A ((fun (u : SA) => wA a b k u) u) t) A) (Zf := fun _ _ => True) (cc := c_A_number) (nL := 7) (ret := (some .int)) (by decide) rfl (Nat.le_of_ble_eq_true rfl) ?_
  intro p e s m below meth c9 A H locs ls hx hb hml hown hts hr hlocks hA hK hP hD hS hZ hl
  have hl : lv_has ls 7 [(0, .ref a), (1, .int p0), (2, .int p1)] := hl
  have ht : ∀ w9 ∈ zT, w9.before _ s = true := fun w9 h9 => hts w9 (List.mem_cons_of_mem _ h9)
  refine lv_aload_n hx hb d_A_number_0 rfl (lv_at hl 0 rfl) ?_
  refine va_get (D := D) (ci := 0) (v := .int (st.1 1)) (C := "WindowMachine$Assembler") (T := T_A) (N := 5) hx hb ht zi_A hown hK hP 0 rfl rfl 2 (by decide) (ht _ zw_47) (fun _ h9 => h9) rfl d_A_number_1 ?_
  refine lv_istore_n (lv' := [(3, .int (st.1 1)), (0, .ref a), (1, .int p0), (2, .int p1)]) hx hb d_A_number_4 rfl hl (by decide) rfl (fun ls hl => ?_)
  refine lv_aload_n hx hb d_A_number_5 rfl (lv_at hl 1 rfl) ?_
  refine zc_i (w2 := fun _ => wA a b k st) (va_runV (As := []) (rest := []) ⟨hx, hb, hml, hown, ht⟩ (mt_A_isGood l D a b k H.size st) (cwV 0 ht (zgV zw_408 zw_410 zs_11 zw_3 zw_411) rfl rfl rfl kd_A_isGood ⟨Nat.le_of_ble_eq_true rfl, Nat.le_of_ble_eq_true rfl⟩) ⟨zw_blind zw_tt, va_recv (hK.sub (tys' := [(k, .char)]) [0] rfl) (hP.sub (ws' := wA a b k st) [0, 1] rfl) (ci := 0) (q0 := 0) rfl rfl, zw_go (hP.sub (ws' := wA a b k st) [0, 1] rfl) (hD.sub (ws' := wA a b k st) [0, 1] (by decide) rfl) (hK.sub (tys' := [(k, .char)]) [0] rfl) (fun _ _ _ => trivial)⟩ rfl rfl hl.1 rfl (lv_room (Nat.le_of_ble_eq_true rfl)) d_A_number_6 ⟨Nat.le_of_ble_eq_true rfl, Nat.le_of_ble_eq_true rfl⟩) hP hD hS hA [0, 1] [] [0, 1] rfl rfl (by decide) (by decide) (by decide) (fun _ => rfl) (fun r_1 _ H locs hw hP hD hS => ?_)
  subst hw
  refine zcut (X := Int32) (G := fun v9 H locs ls => v9 = (if (f_isGood st) = (0 : Int32) then (0 : Int32) else (if (st.1 0) ≤ (st.1 1) then (0 : Int32) else (if (st.2 (st.1 1).toNatClampNeg) = (45 : Int32) then (1 : Int32) else (0 : Int32)))) ∧ va_P D vwCl (wA a b k st) H ∧ va_D A (wA a b k st) ∧ va_S A s.heap H locs ∧ lv_has ls 7 [(0, .ref a), (1, .int p0), (2, .int p1), (3, .int (st.1 1))]) (fr := fun v9 ls => F0 m 42 ls [.int v9]) (fun J_3 => ?_) (fun v9 H locs ls hG => ?_)
  · refine lv_if_eq (tgt := 41) hx hb d_A_number_9 (by decide) (fun c_4 => ?_) (fun c_4 => ?_)
    · refine lv_iconst (v := (0 : Int32)) hx hb d_A_number_41 (by decide) ?_
      exact J_3 (0 : Int32) _ _ _ ⟨by simp only [if_pos c_4], hP, hD, hS, (lv_sub hl [1, 2, 3, 0] rfl)⟩
    refine lv_aload_n hx hb d_A_number_12 rfl (lv_at hl 1 rfl) ?_
    refine va_get (D := D) (ci := 0) (v := .int (st.1 1)) (C := "WindowMachine$Assembler") (T := T_A) (N := 5) hx hb ht zi_A hown hK hP 0 rfl rfl 2 (by decide) (ht _ zw_47) (fun _ h9 => h9) rfl d_A_number_13 ?_
    refine lv_aload_n hx hb d_A_number_16 rfl (lv_at hl 1 rfl) ?_
    refine va_get (D := D) (ci := 0) (v := .int (st.1 0)) (C := "WindowMachine$Assembler") (T := T_A) (N := 5) hx hb ht zi_A hown hK hP 0 rfl rfl 1 (by decide) (ht _ zw_46) (fun _ h9 => h9) rfl d_A_number_17 ?_
    refine lv_icmp_ge (tgt := 41) hx hb d_A_number_20 (by decide) (fun c_5 => ?_) (fun c_5 => ?_)
    · refine lv_iconst (v := (0 : Int32)) hx hb d_A_number_41 (by decide) ?_
      exact J_3 (0 : Int32) _ _ _ ⟨by simp only [if_neg c_4, if_pos c_5], hP, hD, hS, (lv_sub hl [1, 2, 3, 0] rfl)⟩
    refine lv_aload_n hx hb d_A_number_23 rfl (lv_at hl 1 rfl) ?_
    refine va_get (D := D) (ci := 0) (v := .ref b) (C := "WindowMachine$Assembler") (T := T_A) (N := 5) hx hb ht zi_A hown hK hP 0 rfl rfl 0 (by decide) (ht _ zw_44) (fun _ h9 => h9) rfl d_A_number_24 ?_
    refine lv_aload_n hx hb d_A_number_27 rfl (lv_at hl 1 rfl) ?_
    refine va_get (D := D) (ci := 0) (v := .int (st.1 1)) (C := "WindowMachine$Assembler") (T := T_A) (N := 5) hx hb ht zi_A hown hK hP 0 rfl rfl 2 (by decide) (ht _ zw_47) (fun _ h9 => h9) rfl d_A_number_28 ?_
    refine va_cald hx hb hK hP 1 0 rfl rfl (at_in hA9 c_5) d_A_number_31 ?_
    refine lv_bipush (v := (45 : Int32)) hx hb d_A_number_32 (by decide) ?_
    refine lv_icmp_ne (tgt := 41) hx hb d_A_number_34 (by decide) (fun c_6 => ?_) (fun c_6 => ?_)
    · refine lv_iconst (v := (0 : Int32)) hx hb d_A_number_41 (by decide) ?_
      exact J_3 (0 : Int32) _ _ _ ⟨by simp only [if_neg c_4, if_neg c_5, if_neg c_6], hP, hD, hS, (lv_sub hl [1, 2, 3, 0] rfl)⟩
    refine lv_iconst (v := (1 : Int32)) hx hb d_A_number_37 (by decide) ?_
    refine lv_goto (tgt := 42) hx hb d_A_number_38 (by decide) ?_
    exact J_3 (1 : Int32) _ _ _ ⟨by simp only [if_neg c_4, if_neg c_5, if_pos c_6], hP, hD, hS, (lv_sub hl [1, 2, 3, 0] rfl)⟩
  obtain ⟨x_2, rfl⟩ : ∃ z, z = v9 := ⟨_, rfl⟩
  obtain ⟨ex_2, hP, hD, hS, hl⟩ := hG
  have zbx_2 : zB x_2 := by rw [ex_2]; repeat' first | exact zB0 | exact zB1 | assumption | apply zB_ite
  refine lv_istore (lv' := [(4, .int x_2), (0, .ref a), (1, .int p0), (2, .int p1), (3, .int (st.1 1))]) hx hb d_A_number_42 hl (by decide) rfl (fun ls hl => ?_)
  refine lv_iload hx hb d_A_number_44 (lv_at hl 0 rfl) ?_
  refine zcut (X := SA) (G := fun v9 H locs ls => v9 = (if x_2 = (0 : Int32) then st else (upd st.1 1 ((st.1 1) + (1 : Int32)), st.2)) ∧ va_P D vwCl (wA a b k v9) H ∧ va_D A (wA a b k v9) ∧ va_S A s.heap H locs ∧ lv_has ls 7 [(0, .ref a), (1, .int p0), (2, .int p1), (3, .int (st.1 1)), (4, .int x_2)]) (fr := fun v9 ls => F0 m 59 ls []) (fun J_8 => ?_) (fun v9 H locs ls hG => ?_)
  · refine lv_if_eq (tgt := 59) hx hb d_A_number_46 (by decide) (fun c_9 => ?_) (fun c_9 => ?_)
    · exact J_8 st _ _ _ ⟨by simp only [if_pos c_9], hP, hD, hS, (lv_sub hl [1, 2, 3, 4, 0] rfl)⟩
    refine lv_aload_n hx hb d_A_number_49 rfl (lv_at hl 1 rfl) ?_
    refine lv_dup hx hb d_A_number_50 rfl ?_
    refine va_get (D := D) (ci := 0) (v := .int (st.1 1)) (C := "WindowMachine$Assembler") (T := T_A) (N := 5) hx hb ht zi_A hown hK hP 0 rfl rfl 2 (by decide) (ht _ zw_47) (fun _ h9 => h9) rfl d_A_number_51 ?_
    refine lv_iconst (v := (1 : Int32)) hx hb d_A_number_54 (by decide) ?_
    refine lv_iadd hx hb d_A_number_55 ?_
    refine va_put (D := D) (ci := 0) (v := .int ((st.1 1) + (1 : Int32))) (ty := .int) (C := "WindowMachine$Assembler") (T := T_A) (N := 5) hx hb ht zi_A ty_A tyok_A nm_A hown hK hP hD hS 0 rfl rfl 2 (by decide) (ht _ zw_47) (fun _ h9 => h9) rfl (by decide +kernel) rfl rfl (Nat.le_of_ble_eq_true rfl) d_A_number_56 (fun H locs hP hD hS => ?_)
    have hP : va_P D vwCl (wA a b k (upd st.1 1 ((st.1 1) + (1 : Int32)), st.2)) H := hP
    have hD : va_D A (wA a b k (upd st.1 1 ((st.1 1) + (1 : Int32)), st.2)) := hD
    exact J_8 (upd st.1 1 ((st.1 1) + (1 : Int32)), st.2) _ _ _ ⟨by simp only [if_neg c_9], hP, hD, hS, (lv_sub hl [1, 2, 3, 4, 0] rfl)⟩
  obtain ⟨u_7, rfl⟩ : ∃ z, z = v9 := ⟨_, rfl⟩
  obtain ⟨eu_7, hP, hD, hS, hl⟩ := hG
  have ok_7 : okA u_7 := by rw [eu_7]; (repeat' split) <;> first | exact hA9 | exact (ok_at hA9 (neg_at ex_2 c_7))
  refine lv_aload_n hx hb d_A_number_59 rfl (lv_at hl 0 rfl) ?_
  refine lv_bipush (v := (9 : Int32)) hx hb d_A_number_60 (by decide) ?_
  refine zc_i (w2 := fun u9 => wA a b k u9) (va_runV (As := [.int (9 : Int32)]) (rest := []) ⟨hx, hb, hml, hown, ht⟩ (mt_A_digits l D a b k H.size u_7 (9 : Int32) ok_7) (cwV 1 ht (zgV zw_420 zw_422 zs_14 zw_3 zw_423) rfl rfl rfl kd_A_digits ⟨Nat.le_of_ble_eq_true rfl, Nat.le_of_ble_eq_true rfl⟩) ⟨zw_blind zw_tt, va_recv (hK.sub (tys' := [(k, .char)]) [0] rfl) (hP.sub (ws' := wA a b k u_7) [0, 1] rfl) (ci := 0) (q0 := 0) rfl rfl, zw_go (hP.sub (ws' := wA a b k u_7) [0, 1] rfl) (hD.sub (ws' := wA a b k u_7) [0, 1] (by decide) rfl) (hK.sub (tys' := [(k, .char)]) [0] rfl) (fun _ _ _ => trivial)⟩ rfl rfl hl.1 rfl (lv_room (Nat.le_of_ble_eq_true rfl)) d_A_number_62 ⟨Nat.le_of_ble_eq_true rfl, Nat.le_of_ble_eq_true rfl⟩) hP hD hS hA [0, 1] [] [0, 1] rfl rfl (by decide) (by decide) (by decide) (fun _ => rfl) (fun r_10 u_10 H locs hw hP hD hS => ?_)
  obtain ⟨er_10, eu_10⟩ := hw
  have ok_10 : okA u_10 := by rw [eu_10]; exact (ok_digits ok_7)
  refine lv_istore (lv' := [(5, .int r_10), (0, .ref a), (1, .int p0), (2, .int p1), (3, .int (st.1 1)), (4, .int x_2)]) hx hb d_A_number_65 hl (by decide) rfl (fun ls hl => ?_)
  refine lv_iload hx hb d_A_number_67 (lv_at hl 5 rfl) ?_
  refine zcut (X := Int32) (G := fun v9 H locs ls => v9 = (if x_2 = (0 : Int32) then r_10 else -r_10) ∧ va_P D vwCl (wA a b k u_10) H ∧ va_D A (wA a b k u_10) ∧ va_S A s.heap H locs ∧ lv_has ls 7 [(0, .ref a), (1, .int p0), (2, .int p1), (3, .int (st.1 1)), (4, .int x_2), (5, .int r_10)]) (fr := fun v9 ls => F0 m 80 ls [.int v9]) (fun J_12 => ?_) (fun v9 H locs ls hG => ?_)
  · refine lv_if_eq (tgt := 78) hx hb d_A_number_69 (by decide) (fun c_13 => ?_) (fun c_13 => ?_)
    · refine lv_iload hx hb d_A_number_78 (lv_at hl 0 rfl) ?_
      exact J_12 r_10 _ _ _ ⟨by simp only [if_pos c_13], hP, hD, hS, (lv_sub hl [1, 2, 3, 4, 5, 0] rfl)⟩
    refine lv_iload hx hb d_A_number_72 (lv_at hl 0 rfl) ?_
    refine lv_ineg hx hb d_A_number_74 ?_
    refine lv_goto (tgt := 80) hx hb d_A_number_75 (by decide) ?_
    exact J_12 (-r_10) _ _ _ ⟨by simp only [if_neg c_13], hP, hD, hS, (lv_sub hl [1, 2, 3, 4, 5, 0] rfl)⟩
  obtain ⟨x_11, rfl⟩ : ∃ z, z = v9 := ⟨_, rfl⟩
  obtain ⟨ex_11, hP, hD, hS, hl⟩ := hG
  refine lv_istore (lv' := [(6, .int x_11), (0, .ref a), (1, .int p0), (2, .int p1), (3, .int (st.1 1)), (4, .int x_2), (5, .int r_10)]) hx hb d_A_number_80 hl (by decide) rfl (fun ls hl => ?_)
  refine lv_aload_n hx hb d_A_number_82 rfl (lv_at hl 1 rfl) ?_
  refine lv_iload hx hb d_A_number_83 (lv_at hl 0 rfl) ?_
  refine lv_iload_n hx hb d_A_number_85 rfl (lv_at hl 2 rfl) ?_
  refine lv_iload_n hx hb d_A_number_86 rfl (lv_at hl 3 rfl) ?_
  refine lv_iload_n hx hb d_A_number_87 rfl (lv_at hl 4 rfl) ?_
  refine zc_v (w2 := fun u9 => wA a b k u9) (va_runV (As := [.int x_11, .int p0, .int p1, .int (st.1 1)]) (rest := []) ⟨hx, hb, hml, hown, ht⟩ (mt_A_checkRange l D a b k H.size u_10 x_11 p0 p1 (st.1 1) ok_10) (cwV 4 ht (zgV zw_424 zw_426 zs_15 zw_3 zw_427) rfl rfl rfl kd_A_checkRange ⟨Nat.le_of_ble_eq_true rfl, Nat.le_of_ble_eq_true rfl⟩) ⟨zw_blind zw_tt, va_recv (hK.sub (tys' := [(k, .char)]) [0] rfl) (hP.sub (ws' := wA a b k u_10) [0, 1] rfl) (ci := 0) (q0 := 0) rfl rfl, zw_go (hP.sub (ws' := wA a b k u_10) [0, 1] rfl) (hD.sub (ws' := wA a b k u_10) [0, 1] (by decide) rfl) (hK.sub (tys' := [(k, .char)]) [0] rfl) (fun _ _ _ => trivial)⟩ rfl rfl hl.1 rfl (lv_room (Nat.le_of_ble_eq_true rfl)) d_A_number_88 ⟨Nat.le_of_ble_eq_true rfl, Nat.le_of_ble_eq_true rfl⟩) hP hD hS hA [0, 1] [] [0, 1] rfl rfl (by decide) (by decide) (by decide) (fun _ => rfl) (fun u_14 H locs hw hP hD hS => ?_)
  have eu_14 := hw
  have ok_14 : okA u_14 := by rw [eu_14]; exact (ok_checkRange ok_10)
  refine lv_iload hx hb d_A_number_91 (lv_at hl 0 rfl) ?_
  refine lv_iload_n hx hb d_A_number_93 rfl (lv_at hl 3 rfl) ?_
  refine lv_iload_n hx hb d_A_number_94 rfl (lv_at hl 2 rfl) ?_
  refine lv_isub hx hb d_A_number_95 ?_
  refine lv_iand hx hb d_A_number_96 ?_
  exact zl_i (u := u_14) hx hb hr hlocks hS hP hD (⟨by subst ex_2; subst eu_7; subst er_10; subst eu_10; subst ex_11; subst eu_14; simp only [f_number], by subst ex_2; subst eu_7; subst er_10; subst eu_10; subst ex_11; subst eu_14; simp only [f_number]⟩) d_A_number_97
theorem ok_registerNumber {st : SA} (h : okA st) : okA (f_registerNumber st).2 := ok_checkRange (ok_digits (ok_expect h))
theorem ok_number {st : SA} {a b : Int32} (h : okA st) : okA (f_number st a b).2 := by
  unfold f_number
  dsimp only
  refine ok_checkRange (ok_digits ?_)
  by_cases c : (if f_isGood st = (0 : Int32) then (0 : Int32) else (if (st.1 0) ≤ (st.1 1) then (0 : Int32) else (if (st.2 (st.1 1).toNatClampNeg) = (45 : Int32) then (1 : Int32) else (0 : Int32)))) = (0 : Int32)
  · rw [if_pos c]; exact h
  · rw [if_neg c]; exact ok_at h (neg_at rfl c)
theorem d_A_target_0 : decode c_A_target 0 = .ok (.aload_n 0, 1) := by decide +kernel
theorem d_A_target_1 : decode c_A_target 1 = .ok (.invokevirtual 125, 3) := by decide +kernel
theorem d_A_target_4 : decode c_A_target 4 = .ok (.bipush 25, 2) := by decide +kernel
theorem d_A_target_6 : decode c_A_target 6 = .ok (.ishl, 1) := by decide +kernel
theorem d_A_target_7 : decode c_A_target 7 = .ok (.ireturn, 1) := by decide +kernel
theorem kd_A_target : (y_A_target).cls = "WindowMachine$Assembler" ∧ (y_A_target).cls ≠ "java/lang/invoke/MethodHandle" ∧ (y_A_target).cls ≠ "java/lang/invoke/VarHandle" ∧ (parseMethodDescriptor (y_A_target).desc).map (fun d => d.parameters.length) = some 0 := by decide +kernel
def f_target (st : SA) : Int32 × SA := (let r_1 := (f_registerNumber st).1; (let u_1 := (f_registerNumber st).2; (r_1 <<< ((25 : Int32) &&& 31), u_1)))
set_option maxHeartbeats 4000000 in
set_option maxRecDepth 100000 in
theorem mt_A_target (l : Launch) (D : va_G) (a b : Nat) (k : ClassId) (sz : Nat) (st : SA) (hA9 : okA st) : Met l y_A_target w_A_target ({ frames := 3, cells := 0, slots := 0, locals := 66 }) (va_Pc [.ref a] (zw_pre D vwCl [(k, .char)] sz (wA a b k st) (fun _ => True))) (va_Qi (fun r (u : SA) => r = (f_target st).1 ∧ u = (f_target st).2) (fun u t => zw_at D vwCl (va_A (wA a b k st) sz) ((fun (u : SA) => wA a b k u) u) t) (va_A (wA a b k st) sz)) 0 0 (va_A (wA a b k st) sz) := by
  refine zm (Qf := fun A => va_Qi (fun r (u : SA) => r = (f_target st).1 ∧ u = (f_target st).2) (fun u t => zw_at D vwCl A ((fun (u : SA) => wA a b k u) u) t) A) (Zf := fun _ _ => True) (cc := c_A_target) (nL := 1) (ret := (some .int)) (by decide) rfl (Nat.le_of_ble_eq_true rfl) ?_
  intro p e s m below meth c9 A H locs ls hx hb hml hown hts hr hlocks hA hK hP hD hS hZ hl
  have hl : lv_has ls 1 [(0, .ref a)] := hl
  have ht : ∀ w9 ∈ zT, w9.before _ s = true := fun w9 h9 => hts w9 (List.mem_cons_of_mem _ h9)
  refine lv_aload_n hx hb d_A_target_0 rfl (lv_at hl 0 rfl) ?_
  refine zc_i (w2 := fun u9 => wA a b k u9) (va_runV (As := []) (rest := []) ⟨hx, hb, hml, hown, ht⟩ (mt_A_registerNumber l D a b k H.size st hA9) (cwV 0 ht (zgV zw_416 zw_418 zs_13 zw_3 zw_419) rfl rfl rfl kd_A_registerNumber ⟨Nat.le_of_ble_eq_true rfl, Nat.le_of_ble_eq_true rfl⟩) ⟨zw_blind zw_tt, va_recv (hK.sub (tys' := [(k, .char)]) [0] rfl) (hP.sub (ws' := wA a b k st) [0, 1] rfl) (ci := 0) (q0 := 0) rfl rfl, zw_go (hP.sub (ws' := wA a b k st) [0, 1] rfl) (hD.sub (ws' := wA a b k st) [0, 1] (by decide) rfl) (hK.sub (tys' := [(k, .char)]) [0] rfl) (fun _ _ _ => trivial)⟩ rfl rfl hl.1 rfl (lv_room (Nat.le_of_ble_eq_true rfl)) d_A_target_1 ⟨Nat.le_of_ble_eq_true rfl, Nat.le_of_ble_eq_true rfl⟩) hP hD hS hA [0, 1] [] [0, 1] rfl rfl (by decide) (by decide) (by decide) (fun _ => rfl) (fun r_1 u_1 H locs hw hP hD hS => ?_)
  obtain ⟨er_1, eu_1⟩ := hw
  have ok_1 : okA u_1 := by rw [eu_1]; exact (ok_registerNumber hA9)
  refine lv_bipush (v := (25 : Int32)) hx hb d_A_target_4 (by decide) ?_
  refine lv_ishl hx hb d_A_target_6 ?_
  exact zl_i (u := u_1) hx hb hr hlocks hS hP hD (⟨by subst er_1; subst eu_1; simp only [f_target], by subst er_1; subst eu_1; simp only [f_target]⟩) d_A_target_7
theorem d_A_sources_0 : decode c_A_sources 0 = .ok (.aload_n 0, 1) := by decide +kernel
theorem d_A_sources_1 : decode c_A_sources 1 = .ok (.aload_n 0, 1) := by decide +kernel
theorem d_A_sources_2 : decode c_A_sources 2 = .ok (.invokevirtual 125, 3) := by decide +kernel
theorem d_A_sources_5 : decode c_A_sources 5 = .ok (.invokevirtual 112, 3) := by decide +kernel
theorem d_A_sources_8 : decode c_A_sources 8 = .ok (.bipush 14, 2) := by decide +kernel
theorem d_A_sources_10 : decode c_A_sources 10 = .ok (.ishl, 1) := by decide +kernel
theorem d_A_sources_11 : decode c_A_sources 11 = .ok (.istore_n 1, 1) := by decide +kernel
theorem d_A_sources_12 : decode c_A_sources 12 = .ok (.aload_n 0, 1) := by decide +kernel
theorem d_A_sources_13 : decode c_A_sources 13 = .ok (.getfield 26, 3) := by decide +kernel
theorem d_A_sources_16 : decode c_A_sources 16 = .ok (.aload_n 0, 1) := by decide +kernel
theorem d_A_sources_17 : decode c_A_sources 17 = .ok (.getfield 23, 3) := by decide +kernel
theorem d_A_sources_20 : decode c_A_sources 20 = .ok (.if_icmp .ge 24, 3) := by decide +kernel
theorem d_A_sources_23 : decode c_A_sources 23 = .ok (.aload_n 0, 1) := by decide +kernel
theorem d_A_sources_24 : decode c_A_sources 24 = .ok (.getfield 11, 3) := by decide +kernel
theorem d_A_sources_27 : decode c_A_sources 27 = .ok (.aload_n 0, 1) := by decide +kernel
theorem d_A_sources_28 : decode c_A_sources 28 = .ok (.getfield 26, 3) := by decide +kernel
theorem d_A_sources_31 : decode c_A_sources 31 = .ok (.caload, 1) := by decide +kernel
theorem d_A_sources_32 : decode c_A_sources 32 = .ok (.bipush 37, 2) := by decide +kernel
theorem d_A_sources_34 : decode c_A_sources 34 = .ok (.if_icmp .ne 10, 3) := by decide +kernel
theorem d_A_sources_37 : decode c_A_sources 37 = .ok (.iload_n 1, 1) := by decide +kernel
theorem d_A_sources_38 : decode c_A_sources 38 = .ok (.aload_n 0, 1) := by decide +kernel
theorem d_A_sources_39 : decode c_A_sources 39 = .ok (.invokevirtual 125, 3) := by decide +kernel
theorem d_A_sources_42 : decode c_A_sources 42 = .ok (.ior, 1) := by decide +kernel
theorem d_A_sources_43 : decode c_A_sources 43 = .ok (.ireturn, 1) := by decide +kernel
theorem d_A_sources_44 : decode c_A_sources 44 = .ok (.iload_n 1, 1) := by decide +kernel
theorem d_A_sources_45 : decode c_A_sources 45 = .ok (.sipush 8192, 3) := by decide +kernel
theorem d_A_sources_48 : decode c_A_sources 48 = .ok (.ior, 1) := by decide +kernel
theorem d_A_sources_49 : decode c_A_sources 49 = .ok (.aload_n 0, 1) := by decide +kernel
theorem d_A_sources_50 : decode c_A_sources 50 = .ok (.sipush (-4096), 3) := by decide +kernel
theorem d_A_sources_53 : decode c_A_sources 53 = .ok (.sipush 4095, 3) := by decide +kernel
theorem d_A_sources_56 : decode c_A_sources 56 = .ok (.invokevirtual 116, 3) := by decide +kernel
theorem d_A_sources_59 : decode c_A_sources 59 = .ok (.ior, 1) := by decide +kernel
theorem d_A_sources_60 : decode c_A_sources 60 = .ok (.ireturn, 1) := by decide +kernel
theorem kd_A_sources : (y_A_sources).cls = "WindowMachine$Assembler" ∧ (y_A_sources).cls ≠ "java/lang/invoke/MethodHandle" ∧ (y_A_sources).cls ≠ "java/lang/invoke/VarHandle" ∧ (parseMethodDescriptor (y_A_sources).desc).map (fun d => d.parameters.length) = some 0 := by decide +kernel
def f_sources (st : SA) : Int32 × SA := (let r_1 := (f_registerNumber st).1; (let u_1 := (f_registerNumber st).2; (let r_2 := (f_behind u_1 r_1).1; (let u_2 := (f_behind u_1 r_1).2; (let x_3 := r_2 <<< ((14 : Int32) &&& 31); (if (u_2.1 0) ≤ (u_2.1 1) then (let r_5 := (f_number u_2 (-4096 : Int32) (4095 : Int32)).1; (let u_5 := (f_number u_2 (-4096 : Int32) (4095 : Int32)).2; ((x_3 ||| (8192 : Int32)) ||| r_5, u_5))) else (if (u_2.2 (u_2.1 1).toNatClampNeg) = (37 : Int32) then (let r_8 := (f_registerNumber u_2).1; (let u_8 := (f_registerNumber u_2).2; (x_3 ||| r_8, u_8))) else (let r_7 := (f_number u_2 (-4096 : Int32) (4095 : Int32)).1; (let u_7 := (f_number u_2 (-4096 : Int32) (4095 : Int32)).2; ((x_3 ||| (8192 : Int32)) ||| r_7, u_7))))))))))
set_option maxHeartbeats 4000000 in
set_option maxRecDepth 100000 in
theorem mt_A_sources (l : Launch) (D : va_G) (a b : Nat) (k : ClassId) (sz : Nat) (st : SA) (hA9 : okA st) : Met l y_A_sources w_A_sources ({ frames := 3, cells := 0, slots := 0, locals := 70 }) (va_Pc [.ref a] (zw_pre D vwCl [(k, .char)] sz (wA a b k st) (fun _ => True))) (va_Qi (fun r (u : SA) => r = (f_sources st).1 ∧ u = (f_sources st).2) (fun u t => zw_at D vwCl (va_A (wA a b k st) sz) ((fun (u : SA) => wA a b k u) u) t) (va_A (wA a b k st) sz)) 0 0 (va_A (wA a b k st) sz) := by
  refine zm (Qf := fun A => va_Qi (fun r (u : SA) => r = (f_sources st).1 ∧ u = (f_sources st).2) (fun u t => zw_at D vwCl A ((fun (u : SA) => wA a b k u) u) t) A) (Zf := fun _ _ => True) (cc := c_A_sources) (nL := 2) (ret := (some .int)) (by decide) rfl (Nat.le_of_ble_eq_true rfl) ?_
  intro p e s m below meth c9 A H locs ls hx hb hml hown hts hr hlocks hA hK hP hD hS hZ hl
  have hl : lv_has ls 2 [(0, .ref a)] := hl
  have ht : ∀ w9 ∈ zT, w9.before _ s = true := fun w9 h9 => hts w9 (List.mem_cons_of_mem _ h9)
  refine lv_aload_n hx hb d_A_sources_0 rfl (lv_at hl 0 rfl) ?_
  refine lv_aload_n hx hb d_A_sources_1 rfl (lv_at hl 0 rfl) ?_
  refine zc_i (w2 := fun u9 => wA a b k u9) (va_runV (As := []) (rest := [.ref a]) ⟨hx, hb, hml, hown, ht⟩ (mt_A_registerNumber l D a b k H.size st hA9) (cwV 0 ht (zgV zw_416 zw_418 zs_13 zw_3 zw_419) rfl rfl rfl kd_A_registerNumber ⟨Nat.le_of_ble_eq_true rfl, Nat.le_of_ble_eq_true rfl⟩) ⟨zw_blind zw_tt, va_recv (hK.sub (tys' := [(k, .char)]) [0] rfl) (hP.sub (ws' := wA a b k st) [0, 1] rfl) (ci := 0) (q0 := 0) rfl rfl, zw_go (hP.sub (ws' := wA a b k st) [0, 1] rfl) (hD.sub (ws' := wA a b k st) [0, 1] (by decide) rfl) (hK.sub (tys' := [(k, .char)]) [0] rfl) (fun _ _ _ => trivial)⟩ rfl rfl hl.1 rfl (lv_room (Nat.le_of_ble_eq_true rfl)) d_A_sources_2 ⟨Nat.le_of_ble_eq_true rfl, Nat.le_of_ble_eq_true rfl⟩) hP hD hS hA [0, 1] [] [0, 1] rfl rfl (by decide) (by decide) (by decide) (fun _ => rfl) (fun r_1 u_1 H locs hw hP hD hS => ?_)
  obtain ⟨er_1, eu_1⟩ := hw
  have ok_1 : okA u_1 := by rw [eu_1]; exact (ok_registerNumber hA9)
  refine zc_i (w2 := fun u9 => wA a b k u9) (va_runV (As := [.int r_1]) (rest := []) ⟨hx, hb, hml, hown, ht⟩ (mt_A_behind l D a b k H.size u_1 r_1 ok_1) (cwV 1 ht (zgV zw_432 zw_434 zs_17 zw_3 zw_435) rfl rfl rfl kd_A_behind ⟨Nat.le_of_ble_eq_true rfl, Nat.le_of_ble_eq_true rfl⟩) ⟨zw_blind zw_tt, va_recv (hK.sub (tys' := [(k, .char)]) [0] rfl) (hP.sub (ws' := wA a b k u_1) [0, 1] rfl) (ci := 0) (q0 := 0) rfl rfl, zw_go (hP.sub (ws' := wA a b k u_1) [0, 1] rfl) (hD.sub (ws' := wA a b k u_1) [0, 1] (by decide) rfl) (hK.sub (tys' := [(k, .char)]) [0] rfl) (fun _ _ _ => trivial)⟩ rfl rfl hl.1 rfl (lv_room (Nat.le_of_ble_eq_true rfl)) d_A_sources_5 ⟨Nat.le_of_ble_eq_true rfl, Nat.le_of_ble_eq_true rfl⟩) hP hD hS hA [0, 1] [] [0, 1] rfl rfl (by decide) (by decide) (by decide) (fun _ => rfl) (fun r_2 u_2 H locs hw hP hD hS => ?_)
  obtain ⟨er_2, eu_2⟩ := hw
  have ok_2 : okA u_2 := by rw [eu_2]; exact (ok_behind ok_1)
  refine lv_bipush (v := (14 : Int32)) hx hb d_A_sources_8 (by decide) ?_
  refine lv_ishl hx hb d_A_sources_10 ?_
  refine lv_topi (fun x_3 ex_3 => ?_)
  refine lv_istore_n (lv' := [(1, .int x_3), (0, .ref a)]) hx hb d_A_sources_11 rfl hl (by decide) rfl (fun ls hl => ?_)
  refine lv_aload_n hx hb d_A_sources_12 rfl (lv_at hl 1 rfl) ?_
  refine va_get (D := D) (ci := 0) (v := .int (u_2.1 1)) (C := "WindowMachine$Assembler") (T := T_A) (N := 5) hx hb ht zi_A hown hK hP 0 rfl rfl 2 (by decide) (ht _ zw_47) (fun _ h9 => h9) rfl d_A_sources_13 ?_
  refine lv_aload_n hx hb d_A_sources_16 rfl (lv_at hl 1 rfl) ?_
  refine va_get (D := D) (ci := 0) (v := .int (u_2.1 0)) (C := "WindowMachine$Assembler") (T := T_A) (N := 5) hx hb ht zi_A hown hK hP 0 rfl rfl 1 (by decide) (ht _ zw_46) (fun _ h9 => h9) rfl d_A_sources_17 ?_
  refine lv_icmp_ge (tgt := 44) hx hb d_A_sources_20 (by decide) (fun c_4 => ?_) (fun c_4 => ?_)
  · refine lv_iload_n hx hb d_A_sources_44 rfl (lv_at hl 0 rfl) ?_
    refine lv_sipush (v := (8192 : Int32)) hx hb d_A_sources_45 (by decide) ?_
    refine lv_ior hx hb d_A_sources_48 ?_
    refine lv_aload_n hx hb d_A_sources_49 rfl (lv_at hl 1 rfl) ?_
    refine lv_sipush (v := (-4096 : Int32)) hx hb d_A_sources_50 (by decide) ?_
    refine lv_sipush (v := (4095 : Int32)) hx hb d_A_sources_53 (by decide) ?_
    refine zc_i (w2 := fun u9 => wA a b k u9) (va_runV (As := [.int (-4096 : Int32), .int (4095 : Int32)]) (rest := [.int (x_3 ||| (8192 : Int32))]) ⟨hx, hb, hml, hown, ht⟩ (mt_A_number l D a b k H.size u_2 (-4096 : Int32) (4095 : Int32) ok_2) (cwV 2 ht (zgV zw_436 zw_438 zs_18 zw_3 zw_439) rfl rfl rfl kd_A_number ⟨Nat.le_of_ble_eq_true rfl, Nat.le_of_ble_eq_true rfl⟩) ⟨zw_blind zw_tt, va_recv (hK.sub (tys' := [(k, .char)]) [0] rfl) (hP.sub (ws' := wA a b k u_2) [0, 1] rfl) (ci := 0) (q0 := 0) rfl rfl, zw_go (hP.sub (ws' := wA a b k u_2) [0, 1] rfl) (hD.sub (ws' := wA a b k u_2) [0, 1] (by decide) rfl) (hK.sub (tys' := [(k, .char)]) [0] rfl) (fun _ _ _ => trivial)⟩ rfl rfl hl.1 rfl (lv_room (Nat.le_of_ble_eq_true rfl)) d_A_sources_56 ⟨Nat.le_of_ble_eq_true rfl, Nat.le_of_ble_eq_true rfl⟩) hP hD hS hA [0, 1] [] [0, 1] rfl rfl (by decide) (by decide) (by decide) (fun _ => rfl) (fun r_5 u_5 H locs hw hP hD hS => ?_)
    obtain ⟨er_5, eu_5⟩ := hw
    have ok_5 : okA u_5 := by rw [eu_5]; exact (ok_number ok_2)
    refine lv_ior hx hb d_A_sources_59 ?_
    exact zl_i (u := u_5) hx hb hr hlocks hS hP hD (⟨by subst er_1; subst eu_1; subst er_2; subst eu_2; subst ex_3; subst er_5; subst eu_5; simp only [f_sources, if_pos c_4], by subst er_1; subst eu_1; subst er_2; subst eu_2; subst ex_3; subst er_5; subst eu_5; simp only [f_sources, if_pos c_4]⟩) d_A_sources_60
  refine lv_aload_n hx hb d_A_sources_23 rfl (lv_at hl 1 rfl) ?_
  refine va_get (D := D) (ci := 0) (v := .ref b) (C := "WindowMachine$Assembler") (T := T_A) (N := 5) hx hb ht zi_A hown hK hP 0 rfl rfl 0 (by decide) (ht _ zw_44) (fun _ h9 => h9) rfl d_A_sources_24 ?_
  refine lv_aload_n hx hb d_A_sources_27 rfl (lv_at hl 1 rfl) ?_
  refine va_get (D := D) (ci := 0) (v := .int (u_2.1 1)) (C := "WindowMachine$Assembler") (T := T_A) (N := 5) hx hb ht zi_A hown hK hP 0 rfl rfl 2 (by decide) (ht _ zw_47) (fun _ h9 => h9) rfl d_A_sources_28 ?_
  refine va_cald hx hb hK hP 1 0 rfl rfl (at_in ok_2 c_4) d_A_sources_31 ?_
  refine lv_bipush (v := (37 : Int32)) hx hb d_A_sources_32 (by decide) ?_
  refine lv_icmp_ne (tgt := 44) hx hb d_A_sources_34 (by decide) (fun c_6 => ?_) (fun c_6 => ?_)
  · refine lv_iload_n hx hb d_A_sources_44 rfl (lv_at hl 0 rfl) ?_
    refine lv_sipush (v := (8192 : Int32)) hx hb d_A_sources_45 (by decide) ?_
    refine lv_ior hx hb d_A_sources_48 ?_
    refine lv_aload_n hx hb d_A_sources_49 rfl (lv_at hl 1 rfl) ?_
    refine lv_sipush (v := (-4096 : Int32)) hx hb d_A_sources_50 (by decide) ?_
    refine lv_sipush (v := (4095 : Int32)) hx hb d_A_sources_53 (by decide) ?_
    refine zc_i (w2 := fun u9 => wA a b k u9) (va_runV (As := [.int (-4096 : Int32), .int (4095 : Int32)]) (rest := [.int (x_3 ||| (8192 : Int32))]) ⟨hx, hb, hml, hown, ht⟩ (mt_A_number l D a b k H.size u_2 (-4096 : Int32) (4095 : Int32) ok_2) (cwV 2 ht (zgV zw_436 zw_438 zs_18 zw_3 zw_439) rfl rfl rfl kd_A_number ⟨Nat.le_of_ble_eq_true rfl, Nat.le_of_ble_eq_true rfl⟩) ⟨zw_blind zw_tt, va_recv (hK.sub (tys' := [(k, .char)]) [0] rfl) (hP.sub (ws' := wA a b k u_2) [0, 1] rfl) (ci := 0) (q0 := 0) rfl rfl, zw_go (hP.sub (ws' := wA a b k u_2) [0, 1] rfl) (hD.sub (ws' := wA a b k u_2) [0, 1] (by decide) rfl) (hK.sub (tys' := [(k, .char)]) [0] rfl) (fun _ _ _ => trivial)⟩ rfl rfl hl.1 rfl (lv_room (Nat.le_of_ble_eq_true rfl)) d_A_sources_56 ⟨Nat.le_of_ble_eq_true rfl, Nat.le_of_ble_eq_true rfl⟩) hP hD hS hA [0, 1] [] [0, 1] rfl rfl (by decide) (by decide) (by decide) (fun _ => rfl) (fun r_7 u_7 H locs hw hP hD hS => ?_)
    obtain ⟨er_7, eu_7⟩ := hw
    have ok_7 : okA u_7 := by rw [eu_7]; exact (ok_number ok_2)
    refine lv_ior hx hb d_A_sources_59 ?_
    exact zl_i (u := u_7) hx hb hr hlocks hS hP hD (⟨by subst er_1; subst eu_1; subst er_2; subst eu_2; subst ex_3; subst er_7; subst eu_7; simp only [f_sources, if_neg c_4, if_neg c_6], by subst er_1; subst eu_1; subst er_2; subst eu_2; subst ex_3; subst er_7; subst eu_7; simp only [f_sources, if_neg c_4, if_neg c_6]⟩) d_A_sources_60
  refine lv_iload_n hx hb d_A_sources_37 rfl (lv_at hl 0 rfl) ?_
  refine lv_aload_n hx hb d_A_sources_38 rfl (lv_at hl 1 rfl) ?_
  refine zc_i (w2 := fun u9 => wA a b k u9) (va_runV (As := []) (rest := [.int x_3]) ⟨hx, hb, hml, hown, ht⟩ (mt_A_registerNumber l D a b k H.size u_2 ok_2) (cwV 0 ht (zgV zw_416 zw_418 zs_13 zw_3 zw_419) rfl rfl rfl kd_A_registerNumber ⟨Nat.le_of_ble_eq_true rfl, Nat.le_of_ble_eq_true rfl⟩) ⟨zw_blind zw_tt, va_recv (hK.sub (tys' := [(k, .char)]) [0] rfl) (hP.sub (ws' := wA a b k u_2) [0, 1] rfl) (ci := 0) (q0 := 0) rfl rfl, zw_go (hP.sub (ws' := wA a b k u_2) [0, 1] rfl) (hD.sub (ws' := wA a b k u_2) [0, 1] (by decide) rfl) (hK.sub (tys' := [(k, .char)]) [0] rfl) (fun _ _ _ => trivial)⟩ rfl rfl hl.1 rfl (lv_room (Nat.le_of_ble_eq_true rfl)) d_A_sources_39 ⟨Nat.le_of_ble_eq_true rfl, Nat.le_of_ble_eq_true rfl⟩) hP hD hS hA [0, 1] [] [0, 1] rfl rfl (by decide) (by decide) (by decide) (fun _ => rfl) (fun r_8 u_8 H locs hw hP hD hS => ?_)
  obtain ⟨er_8, eu_8⟩ := hw
  have ok_8 : okA u_8 := by rw [eu_8]; exact (ok_registerNumber ok_2)
  refine lv_ior hx hb d_A_sources_42 ?_
  exact zl_i (u := u_8) hx hb hr hlocks hS hP hD (⟨by subst er_1; subst eu_1; subst er_2; subst eu_2; subst ex_3; subst er_8; subst eu_8; simp only [f_sources, if_neg c_4, if_pos c_6], by subst er_1; subst eu_1; subst er_2; subst eu_2; subst ex_3; subst er_8; subst eu_8; simp only [f_sources, if_neg c_4, if_pos c_6]⟩) d_A_sources_43
theorem d_A_distanceAndAnnul_0 : decode c_A_distanceAndAnnul 0 = .ok (.aload_n 0, 1) := by decide +kernel
theorem d_A_distanceAndAnnul_1 : decode c_A_distanceAndAnnul 1 = .ok (.ldc 128, 2) := by decide +kernel
theorem d_A_distanceAndAnnul_3 : decode c_A_distanceAndAnnul 3 = .ok (.ldc 129, 2) := by decide +kernel
theorem d_A_distanceAndAnnul_5 : decode c_A_distanceAndAnnul 5 = .ok (.invokevirtual 116, 3) := by decide +kernel
theorem d_A_distanceAndAnnul_8 : decode c_A_distanceAndAnnul 8 = .ok (.istore_n 1, 1) := by decide +kernel
theorem d_A_distanceAndAnnul_9 : decode c_A_distanceAndAnnul 9 = .ok (.aload_n 0, 1) := by decide +kernel
theorem d_A_distanceAndAnnul_10 : decode c_A_distanceAndAnnul 10 = .ok (.invokevirtual 36, 3) := by decide +kernel
theorem d_A_distanceAndAnnul_13 : decode c_A_distanceAndAnnul 13 = .ok (.ifCond .eq 14, 3) := by decide +kernel
theorem d_A_distanceAndAnnul_16 : decode c_A_distanceAndAnnul 16 = .ok (.aload_n 0, 1) := by decide +kernel
theorem d_A_distanceAndAnnul_17 : decode c_A_distanceAndAnnul 17 = .ok (.getfield 26, 3) := by decide +kernel
theorem d_A_distanceAndAnnul_20 : decode c_A_distanceAndAnnul 20 = .ok (.aload_n 0, 1) := by decide +kernel
theorem d_A_distanceAndAnnul_21 : decode c_A_distanceAndAnnul 21 = .ok (.getfield 23, 3) := by decide +kernel
theorem d_A_distanceAndAnnul_24 : decode c_A_distanceAndAnnul 24 = .ok (.if_icmp .ne 5, 3) := by decide +kernel
theorem d_A_distanceAndAnnul_27 : decode c_A_distanceAndAnnul 27 = .ok (.iload_n 1, 1) := by decide +kernel
theorem d_A_distanceAndAnnul_28 : decode c_A_distanceAndAnnul 28 = .ok (.ireturn, 1) := by decide +kernel
theorem d_A_distanceAndAnnul_29 : decode c_A_distanceAndAnnul 29 = .ok (.aload_n 0, 1) := by decide +kernel
theorem d_A_distanceAndAnnul_30 : decode c_A_distanceAndAnnul 30 = .ok (.bipush 44, 2) := by decide +kernel
theorem d_A_distanceAndAnnul_32 : decode c_A_distanceAndAnnul 32 = .ok (.invokevirtual 102, 3) := by decide +kernel
theorem d_A_distanceAndAnnul_35 : decode c_A_distanceAndAnnul 35 = .ok (.aload_n 0, 1) := by decide +kernel
theorem d_A_distanceAndAnnul_36 : decode c_A_distanceAndAnnul 36 = .ok (.bipush 97, 2) := by decide +kernel
theorem d_A_distanceAndAnnul_38 : decode c_A_distanceAndAnnul 38 = .ok (.invokevirtual 102, 3) := by decide +kernel
theorem d_A_distanceAndAnnul_41 : decode c_A_distanceAndAnnul 41 = .ok (.iload_n 1, 1) := by decide +kernel
theorem d_A_distanceAndAnnul_42 : decode c_A_distanceAndAnnul 42 = .ok (.ldc 130, 2) := by decide +kernel
theorem d_A_distanceAndAnnul_44 : decode c_A_distanceAndAnnul 44 = .ok (.ior, 1) := by decide +kernel
theorem d_A_distanceAndAnnul_45 : decode c_A_distanceAndAnnul 45 = .ok (.ireturn, 1) := by decide +kernel
theorem kd_A_distanceAndAnnul : (y_A_distanceAndAnnul).cls = "WindowMachine$Assembler" ∧ (y_A_distanceAndAnnul).cls ≠ "java/lang/invoke/MethodHandle" ∧ (y_A_distanceAndAnnul).cls ≠ "java/lang/invoke/VarHandle" ∧ (parseMethodDescriptor (y_A_distanceAndAnnul).desc).map (fun d => d.parameters.length) = some 0 := by decide +kernel
def f_distanceAndAnnul (st : SA) : Int32 × SA := (let r_1 := (f_number st (-2097152 : Int32) (2097151 : Int32)).1; (let u_1 := (f_number st (-2097152 : Int32) (2097151 : Int32)).2; (if (f_isGood u_1) = (0 : Int32) then (r_1, u_1) else (if (u_1.1 1) = (u_1.1 0) then (r_1, u_1) else (let u_5 := f_expect u_1 (44 : Int32); (let u_6 := f_expect u_5 (97 : Int32); (r_1 ||| (536870912 : Int32), u_6)))))))
set_option maxHeartbeats 4000000 in
set_option maxRecDepth 100000 in
theorem mt_A_distanceAndAnnul (l : Launch) (D : va_G) (a b : Nat) (k : ClassId) (sz : Nat) (st : SA) (hA9 : okA st) : Met l y_A_distanceAndAnnul w_A_distanceAndAnnul ({ frames := 3, cells := 0, slots := 0, locals := 70 }) (va_Pc [.ref a] (zw_pre D vwCl [(k, .char)] sz (wA a b k st) (fun _ => True))) (va_Qi (fun r (u : SA) => r = (f_distanceAndAnnul st).1 ∧ u = (f_distanceAndAnnul st).2) (fun u t => zw_at D vwCl (va_A (wA a b k st) sz) ((fun (u : SA) => wA a b k u) u) t) (va_A (wA a b k st) sz)) 0 0 (va_A (wA a b k st) sz) := by
  refine zm (Qf := fun A => va_Qi (fun r (u : SA) => r = (f_distanceAndAnnul st).1 ∧ u = (f_distanceAndAnnul st).2) (fun u t => zw_at D vwCl A ((fun (u : SA) => wA a b k u) u) t) A) (Zf := fun _ _ => True) (cc := c_A_distanceAndAnnul) (nL := 2) (ret := (some .int)) (by decide) rfl (Nat.le_of_ble_eq_true rfl) ?_
  intro p e s m below meth c9 A H locs ls hx hb hml hown hts hr hlocks hA hK hP hD hS hZ hl
  have hl : lv_has ls 2 [(0, .ref a)] := hl
  have ht : ∀ w9 ∈ zT, w9.before _ s = true := fun w9 h9 => hts w9 (List.mem_cons_of_mem _ h9)
  refine lv_aload_n hx hb d_A_distanceAndAnnul_0 rfl (lv_at hl 0 rfl) ?_
  refine lv_ldc (v := (-2097152 : Int32)) hx hb hown (ht _ zw_447) d_A_distanceAndAnnul_1 ?_
  refine lv_ldc (v := (2097151 : Int32)) hx hb hown (ht _ zw_448) d_A_distanceAndAnnul_3 ?_
  refine zc_i (w2 := fun u9 => wA a b k u9) (va_runV (As := [.int (-2097152 : Int32), .int (2097151 : Int32)]) (rest := []) ⟨hx, hb, hml, hown, ht⟩ (mt_A_number l D a b k H.size st (-2097152 : Int32) (2097151 : Int32) hA9) (cwV 2 ht (zgV zw_436 zw_438 zs_18 zw_3 zw_439) rfl rfl rfl kd_A_number ⟨Nat.le_of_ble_eq_true rfl, Nat.le_of_ble_eq_true rfl⟩) ⟨zw_blind zw_tt, va_recv (hK.sub (tys' := [(k, .char)]) [0] rfl) (hP.sub (ws' := wA a b k st) [0, 1] rfl) (ci := 0) (q0 := 0) rfl rfl, zw_go (hP.sub (ws' := wA a b k st) [0, 1] rfl) (hD.sub (ws' := wA a b k st) [0, 1] (by decide) rfl) (hK.sub (tys' := [(k, .char)]) [0] rfl) (fun _ _ _ => trivial)⟩ rfl rfl hl.1 rfl (lv_room (Nat.le_of_ble_eq_true rfl)) d_A_distanceAndAnnul_5 ⟨Nat.le_of_ble_eq_true rfl, Nat.le_of_ble_eq_true rfl⟩) hP hD hS hA [0, 1] [] [0, 1] rfl rfl (by decide) (by decide) (by decide) (fun _ => rfl) (fun r_1 u_1 H locs hw hP hD hS => ?_)
  obtain ⟨er_1, eu_1⟩ := hw
  have ok_1 : okA u_1 := by rw [eu_1]; exact (ok_number hA9)
  refine lv_istore_n (lv' := [(1, .int r_1), (0, .ref a)]) hx hb d_A_distanceAndAnnul_8 rfl hl (by decide) rfl (fun ls hl => ?_)
  refine lv_aload_n hx hb d_A_distanceAndAnnul_9 rfl (lv_at hl 1 rfl) ?_
  refine zc_i (w2 := fun _ => wA a b k u_1) (va_runV (As := []) (rest := []) ⟨hx, hb, hml, hown, ht⟩ (mt_A_isGood l D a b k H.size u_1) (cwV 0 ht (zgV zw_408 zw_410 zs_11 zw_3 zw_411) rfl rfl rfl kd_A_isGood ⟨Nat.le_of_ble_eq_true rfl, Nat.le_of_ble_eq_true rfl⟩) ⟨zw_blind zw_tt, va_recv (hK.sub (tys' := [(k, .char)]) [0] rfl) (hP.sub (ws' := wA a b k u_1) [0, 1] rfl) (ci := 0) (q0 := 0) rfl rfl, zw_go (hP.sub (ws' := wA a b k u_1) [0, 1] rfl) (hD.sub (ws' := wA a b k u_1) [0, 1] (by decide) rfl) (hK.sub (tys' := [(k, .char)]) [0] rfl) (fun _ _ _ => trivial)⟩ rfl rfl hl.1 rfl (lv_room (Nat.le_of_ble_eq_true rfl)) d_A_distanceAndAnnul_10 ⟨Nat.le_of_ble_eq_true rfl, Nat.le_of_ble_eq_true rfl⟩) hP hD hS hA [0, 1] [] [0, 1] rfl rfl (by decide) (by decide) (by decide) (fun _ => rfl) (fun r_2 _ H locs hw hP hD hS => ?_)
  subst hw
  refine lv_if_eq (tgt := 27) hx hb d_A_distanceAndAnnul_13 (by decide) (fun c_3 => ?_) (fun c_3 => ?_)
  · refine lv_iload_n hx hb d_A_distanceAndAnnul_27 rfl (lv_at hl 0 rfl) ?_
    exact zl_i (u := u_1) hx hb hr hlocks hS hP hD (⟨by subst er_1; subst eu_1; simp only [f_distanceAndAnnul, if_pos c_3], by subst er_1; subst eu_1; simp only [f_distanceAndAnnul, if_pos c_3]⟩) d_A_distanceAndAnnul_28
  refine lv_aload_n hx hb d_A_distanceAndAnnul_16 rfl (lv_at hl 1 rfl) ?_
  refine va_get (D := D) (ci := 0) (v := .int (u_1.1 1)) (C := "WindowMachine$Assembler") (T := T_A) (N := 5) hx hb ht zi_A hown hK hP 0 rfl rfl 2 (by decide) (ht _ zw_47) (fun _ h9 => h9) rfl d_A_distanceAndAnnul_17 ?_
  refine lv_aload_n hx hb d_A_distanceAndAnnul_20 rfl (lv_at hl 1 rfl) ?_
  refine va_get (D := D) (ci := 0) (v := .int (u_1.1 0)) (C := "WindowMachine$Assembler") (T := T_A) (N := 5) hx hb ht zi_A hown hK hP 0 rfl rfl 1 (by decide) (ht _ zw_46) (fun _ h9 => h9) rfl d_A_distanceAndAnnul_21 ?_
  refine lv_icmp_ne (tgt := 29) hx hb d_A_distanceAndAnnul_24 (by decide) (fun c_4 => ?_) (fun c_4 => ?_)
  · refine lv_aload_n hx hb d_A_distanceAndAnnul_29 rfl (lv_at hl 1 rfl) ?_
    refine lv_bipush (v := (44 : Int32)) hx hb d_A_distanceAndAnnul_30 (by decide) ?_
    refine zc_v (w2 := fun u9 => wA a b k u9) (va_runV (As := [.int (44 : Int32)]) (rest := []) ⟨hx, hb, hml, hown, ht⟩ (mt_A_expect l D a b k H.size u_1 (44 : Int32) ok_1) (cwV 1 ht (zgV zw_404 zw_406 zs_10 zw_3 zw_407) rfl rfl rfl kd_A_expect ⟨Nat.le_of_ble_eq_true rfl, Nat.le_of_ble_eq_true rfl⟩) ⟨zw_blind zw_tt, va_recv (hK.sub (tys' := [(k, .char)]) [0] rfl) (hP.sub (ws' := wA a b k u_1) [0, 1] rfl) (ci := 0) (q0 := 0) rfl rfl, zw_go (hP.sub (ws' := wA a b k u_1) [0, 1] rfl) (hD.sub (ws' := wA a b k u_1) [0, 1] (by decide) rfl) (hK.sub (tys' := [(k, .char)]) [0] rfl) (fun _ _ _ => trivial)⟩ rfl rfl hl.1 rfl (lv_room (Nat.le_of_ble_eq_true rfl)) d_A_distanceAndAnnul_32 ⟨Nat.le_of_ble_eq_true rfl, Nat.le_of_ble_eq_true rfl⟩) hP hD hS hA [0, 1] [] [0, 1] rfl rfl (by decide) (by decide) (by decide) (fun _ => rfl) (fun u_5 H locs hw hP hD hS => ?_)
    have eu_5 := hw
    have ok_5 : okA u_5 := by rw [eu_5]; exact (ok_expect ok_1)
    refine lv_aload_n hx hb d_A_distanceAndAnnul_35 rfl (lv_at hl 1 rfl) ?_
    refine lv_bipush (v := (97 : Int32)) hx hb d_A_distanceAndAnnul_36 (by decide) ?_
    refine zc_v (w2 := fun u9 => wA a b k u9) (va_runV (As := [.int (97 : Int32)]) (rest := []) ⟨hx, hb, hml, hown, ht⟩ (mt_A_expect l D a b k H.size u_5 (97 : Int32) ok_5) (cwV 1 ht (zgV zw_404 zw_406 zs_10 zw_3 zw_407) rfl rfl rfl kd_A_expect ⟨Nat.le_of_ble_eq_true rfl, Nat.le_of_ble_eq_true rfl⟩) ⟨zw_blind zw_tt, va_recv (hK.sub (tys' := [(k, .char)]) [0] rfl) (hP.sub (ws' := wA a b k u_5) [0, 1] rfl) (ci := 0) (q0 := 0) rfl rfl, zw_go (hP.sub (ws' := wA a b k u_5) [0, 1] rfl) (hD.sub (ws' := wA a b k u_5) [0, 1] (by decide) rfl) (hK.sub (tys' := [(k, .char)]) [0] rfl) (fun _ _ _ => trivial)⟩ rfl rfl hl.1 rfl (lv_room (Nat.le_of_ble_eq_true rfl)) d_A_distanceAndAnnul_38 ⟨Nat.le_of_ble_eq_true rfl, Nat.le_of_ble_eq_true rfl⟩) hP hD hS hA [0, 1] [] [0, 1] rfl rfl (by decide) (by decide) (by decide) (fun _ => rfl) (fun u_6 H locs hw hP hD hS => ?_)
    have eu_6 := hw
    have ok_6 : okA u_6 := by rw [eu_6]; exact (ok_expect ok_5)
    refine lv_iload_n hx hb d_A_distanceAndAnnul_41 rfl (lv_at hl 0 rfl) ?_
    refine lv_ldc (v := (536870912 : Int32)) hx hb hown (ht _ zw_449) d_A_distanceAndAnnul_42 ?_
    refine lv_ior hx hb d_A_distanceAndAnnul_44 ?_
    exact zl_i (u := u_6) hx hb hr hlocks hS hP hD (⟨by subst er_1; subst eu_1; subst eu_5; subst eu_6; simp only [f_distanceAndAnnul, if_neg c_3, if_neg c_4], by subst er_1; subst eu_1; subst eu_5; subst eu_6; simp only [f_distanceAndAnnul, if_neg c_3, if_neg c_4]⟩) d_A_distanceAndAnnul_45
  refine lv_iload_n hx hb d_A_distanceAndAnnul_27 rfl (lv_at hl 0 rfl) ?_
  exact zl_i (u := u_1) hx hb hr hlocks hS hP hD (⟨by subst er_1; subst eu_1; simp only [f_distanceAndAnnul, if_neg c_3, if_pos c_4], by subst er_1; subst eu_1; simp only [f_distanceAndAnnul, if_neg c_3, if_pos c_4]⟩) d_A_distanceAndAnnul_28
theorem ok_target {st : SA} (h : okA st) : okA (f_target st).2 := ok_registerNumber h
theorem ok_sources {st : SA} (h : okA st) : okA (f_sources st).2 := by
  have h1 := ok_behind (p := (f_registerNumber st).1) (ok_registerNumber h)
  unfold f_sources
  dsimp only
  split
  · exact ok_number h1
  · split
    · exact ok_registerNumber h1
    · exact ok_number h1
theorem ok_distanceAndAnnul {st : SA} (h : okA st) : okA (f_distanceAndAnnul st).2 := by
  have h1 := ok_number (a := -2097152) (b := 2097151) h
  unfold f_distanceAndAnnul
  dsimp only
  split
  · exact h1
  · split
    · exact h1
    · exact ok_expect (ok_expect h1)
theorem d_A_operands_0 : decode c_A_operands 0 = .ok (.aload_n 0, 1) := by decide +kernel
theorem d_A_operands_1 : decode c_A_operands 1 = .ok (.getfield 47, 3) := by decide +kernel
theorem d_A_operands_4 : decode c_A_operands 4 = .ok (.ifCond .ne 5, 3) := by decide +kernel
theorem d_A_operands_7 : decode c_A_operands 7 = .ok (.iconst 0, 1) := by decide +kernel
theorem d_A_operands_8 : decode c_A_operands 8 = .ok (.ireturn, 1) := by decide +kernel
theorem d_A_operands_9 : decode c_A_operands 9 = .ok (.aload_n 0, 1) := by decide +kernel
theorem d_A_operands_10 : decode c_A_operands 10 = .ok (.bipush 32, 2) := by decide +kernel
theorem d_A_operands_12 : decode c_A_operands 12 = .ok (.invokevirtual 102, 3) := by decide +kernel
theorem d_A_operands_15 : decode c_A_operands 15 = .ok (.aload_n 0, 1) := by decide +kernel
theorem d_A_operands_16 : decode c_A_operands 16 = .ok (.getfield 47, 3) := by decide +kernel
theorem d_A_operands_19 : decode c_A_operands 19 = .ok (.tableswitch 101 1 6 #[37, 42, 47, 61, 75, 92], 37) := by decide +kernel
theorem d_A_operands_56 : decode c_A_operands 56 = .ok (.aload_n 0, 1) := by decide +kernel
theorem d_A_operands_57 : decode c_A_operands 57 = .ok (.invokevirtual 106, 3) := by decide +kernel
theorem d_A_operands_60 : decode c_A_operands 60 = .ok (.ireturn, 1) := by decide +kernel
theorem d_A_operands_61 : decode c_A_operands 61 = .ok (.aload_n 0, 1) := by decide +kernel
theorem d_A_operands_62 : decode c_A_operands 62 = .ok (.invokevirtual 109, 3) := by decide +kernel
theorem d_A_operands_65 : decode c_A_operands 65 = .ok (.ireturn, 1) := by decide +kernel
theorem d_A_operands_66 : decode c_A_operands 66 = .ok (.aload_n 0, 1) := by decide +kernel
theorem d_A_operands_67 : decode c_A_operands 67 = .ok (.aload_n 0, 1) := by decide +kernel
theorem d_A_operands_68 : decode c_A_operands 68 = .ok (.invokevirtual 109, 3) := by decide +kernel
theorem d_A_operands_71 : decode c_A_operands 71 = .ok (.invokevirtual 112, 3) := by decide +kernel
theorem d_A_operands_74 : decode c_A_operands 74 = .ok (.aload_n 0, 1) := by decide +kernel
theorem d_A_operands_75 : decode c_A_operands 75 = .ok (.invokevirtual 106, 3) := by decide +kernel
theorem d_A_operands_78 : decode c_A_operands 78 = .ok (.ior, 1) := by decide +kernel
theorem d_A_operands_79 : decode c_A_operands 79 = .ok (.ireturn, 1) := by decide +kernel
theorem d_A_operands_80 : decode c_A_operands 80 = .ok (.aload_n 0, 1) := by decide +kernel
theorem d_A_operands_81 : decode c_A_operands 81 = .ok (.aload_n 0, 1) := by decide +kernel
theorem d_A_operands_82 : decode c_A_operands 82 = .ok (.invokevirtual 106, 3) := by decide +kernel
theorem d_A_operands_85 : decode c_A_operands 85 = .ok (.invokevirtual 112, 3) := by decide +kernel
theorem d_A_operands_88 : decode c_A_operands 88 = .ok (.aload_n 0, 1) := by decide +kernel
theorem d_A_operands_89 : decode c_A_operands 89 = .ok (.invokevirtual 109, 3) := by decide +kernel
theorem d_A_operands_92 : decode c_A_operands 92 = .ok (.ior, 1) := by decide +kernel
theorem d_A_operands_93 : decode c_A_operands 93 = .ok (.ireturn, 1) := by decide +kernel
theorem d_A_operands_94 : decode c_A_operands 94 = .ok (.aload_n 0, 1) := by decide +kernel
theorem d_A_operands_95 : decode c_A_operands 95 = .ok (.aload_n 0, 1) := by decide +kernel
theorem d_A_operands_96 : decode c_A_operands 96 = .ok (.iconst 0, 1) := by decide +kernel
theorem d_A_operands_97 : decode c_A_operands 97 = .ok (.ldc 115, 2) := by decide +kernel
theorem d_A_operands_99 : decode c_A_operands 99 = .ok (.invokevirtual 116, 3) := by decide +kernel
theorem d_A_operands_102 : decode c_A_operands 102 = .ok (.invokevirtual 112, 3) := by decide +kernel
theorem d_A_operands_105 : decode c_A_operands 105 = .ok (.aload_n 0, 1) := by decide +kernel
theorem d_A_operands_106 : decode c_A_operands 106 = .ok (.invokevirtual 106, 3) := by decide +kernel
theorem d_A_operands_109 : decode c_A_operands 109 = .ok (.ior, 1) := by decide +kernel
theorem d_A_operands_110 : decode c_A_operands 110 = .ok (.ireturn, 1) := by decide +kernel
theorem d_A_operands_111 : decode c_A_operands 111 = .ok (.aload_n 0, 1) := by decide +kernel
theorem d_A_operands_112 : decode c_A_operands 112 = .ok (.ldc 120, 2) := by decide +kernel
theorem d_A_operands_114 : decode c_A_operands 114 = .ok (.ldc 121, 2) := by decide +kernel
theorem d_A_operands_116 : decode c_A_operands 116 = .ok (.invokevirtual 116, 3) := by decide +kernel
theorem d_A_operands_119 : decode c_A_operands 119 = .ok (.ireturn, 1) := by decide +kernel
theorem d_A_operands_120 : decode c_A_operands 120 = .ok (.aload_n 0, 1) := by decide +kernel
theorem d_A_operands_121 : decode c_A_operands 121 = .ok (.invokevirtual 122, 3) := by decide +kernel
theorem d_A_operands_124 : decode c_A_operands 124 = .ok (.ireturn, 1) := by decide +kernel
theorem kd_A_operands : (y_A_operands).cls = "WindowMachine$Assembler" ∧ (y_A_operands).cls ≠ "java/lang/invoke/MethodHandle" ∧ (y_A_operands).cls ≠ "java/lang/invoke/VarHandle" ∧ (parseMethodDescriptor (y_A_operands).desc).map (fun d => d.parameters.length) = some 0 := by decide +kernel
def f_operands (st : SA) : Int32 × SA := (if (st.1 3) = (0 : Int32) then ((0 : Int32), st) else (let u_2 := f_expect st (32 : Int32); (if (u_2.1 3) = (1 : Int32) then (let r_5 := (f_target u_2).1; (let u_5 := (f_target u_2).2; (r_5, u_5))) else (if (u_2.1 3) = (2 : Int32) then (let r_7 := (f_sources u_2).1; (let u_7 := (f_sources u_2).2; (r_7, u_7))) else (if (u_2.1 3) = (3 : Int32) then (let r_9 := (f_sources u_2).1; (let u_9 := (f_sources u_2).2; (let r_10 := (f_behind u_9 r_9).1; (let u_10 := (f_behind u_9 r_9).2; (let r_11 := (f_target u_10).1; (let u_11 := (f_target u_10).2; (r_10 ||| r_11, u_11))))))) else (if (u_2.1 3) = (4 : Int32) then (let r_13 := (f_target u_2).1; (let u_13 := (f_target u_2).2; (let r_14 := (f_behind u_13 r_13).1; (let u_14 := (f_behind u_13 r_13).2; (let r_15 := (f_sources u_14).1; (let u_15 := (f_sources u_14).2; (r_14 ||| r_15, u_15))))))) else (if (u_2.1 3) = (5 : Int32) then (let r_17 := (f_number u_2 (0 : Int32) (4194303 : Int32)).1; (let u_17 := (f_number u_2 (0 : Int32) (4194303 : Int32)).2; (let r_18 := (f_behind u_17 r_17).1; (let u_18 := (f_behind u_17 r_17).2; (let r_19 := (f_target u_18).1; (let u_19 := (f_target u_18).2; (r_18 ||| r_19, u_19))))))) else (if (u_2.1 3) = (6 : Int32) then (let r_21 := (f_number u_2 (-536870912 : Int32) (536870911 : Int32)).1; (let u_21 := (f_number u_2 (-536870912 : Int32) (536870911 : Int32)).2; (r_21, u_21))) else (let r_22 := (f_distanceAndAnnul u_2).1; (let u_22 := (f_distanceAndAnnul u_2).2; (r_22, u_22)))))))))))
set_option maxHeartbeats 4000000 in
set_option maxRecDepth 100000 in
theorem mt_A_operands (l : Launch) (D : va_G) (a b : Nat) (k : ClassId) (sz : Nat) (st : SA) (hA9 : okA st) : Met l y_A_operands w_A_operands ({ frames := 4, cells := 0, slots := 0, locals := 91 }) (va_Pc [.ref a] (zw_pre D vwCl [(k, .char)] sz (wA a b k st) (fun _ => True))) (va_Qi (fun r (u : SA) => r = (f_operands st).1 ∧ u = (f_operands st).2) (fun u t => zw_at D vwCl (va_A (wA a b k st) sz) ((fun (u : SA) => wA a b k u) u) t) (va_A (wA a b k st) sz)) 0 0 (va_A (wA a b k st) sz) := by
  refine zm (Qf := fun A => va_Qi (fun r (u : SA) => r = (f_operands st).1 ∧ u = (f_operands st).2) (fun u t => zw_at D vwCl A ((fun (u : SA) => wA a b k u) u) t) A) (Zf := fun _ _ => True) (cc := c_A_operands) (nL := 1) (ret := (some .int)) (by decide) rfl (Nat.le_of_ble_eq_true rfl) ?_
  intro p e s m below meth c9 A H locs ls hx hb hml hown hts hr hlocks hA hK hP hD hS hZ hl
  have hl : lv_has ls 1 [(0, .ref a)] := hl
  have ht : ∀ w9 ∈ zT, w9.before _ s = true := fun w9 h9 => hts w9 (List.mem_cons_of_mem _ h9)
  refine lv_aload_n hx hb d_A_operands_0 rfl (lv_at hl 0 rfl) ?_
  refine va_get (D := D) (ci := 0) (v := .int (st.1 3)) (C := "WindowMachine$Assembler") (T := T_A) (N := 5) hx hb ht zi_A hown hK hP 0 rfl rfl 4 (by decide) (ht _ zw_50) (fun _ h9 => h9) rfl d_A_operands_1 ?_
  refine lv_if_ne (tgt := 9) hx hb d_A_operands_4 (by decide) (fun c_1 => ?_) (fun c_1 => ?_)
  · refine lv_aload_n hx hb d_A_operands_9 rfl (lv_at hl 0 rfl) ?_
    refine lv_bipush (v := (32 : Int32)) hx hb d_A_operands_10 (by decide) ?_
    refine zc_v (w2 := fun u9 => wA a b k u9) (va_runV (As := [.int (32 : Int32)]) (rest := []) ⟨hx, hb, hml, hown, ht⟩ (mt_A_expect l D a b k H.size st (32 : Int32) hA9) (cwV 1 ht (zgV zw_404 zw_406 zs_10 zw_3 zw_407) rfl rfl rfl kd_A_expect ⟨Nat.le_of_ble_eq_true rfl, Nat.le_of_ble_eq_true rfl⟩) ⟨zw_blind zw_tt, va_recv (hK.sub (tys' := [(k, .char)]) [0] rfl) (hP.sub (ws' := wA a b k st) [0, 1] rfl) (ci := 0) (q0 := 0) rfl rfl, zw_go (hP.sub (ws' := wA a b k st) [0, 1] rfl) (hD.sub (ws' := wA a b k st) [0, 1] (by decide) rfl) (hK.sub (tys' := [(k, .char)]) [0] rfl) (fun _ _ _ => trivial)⟩ rfl rfl hl.1 rfl (lv_room (Nat.le_of_ble_eq_true rfl)) d_A_operands_12 ⟨Nat.le_of_ble_eq_true rfl, Nat.le_of_ble_eq_true rfl⟩) hP hD hS hA [0, 1] [] [0, 1] rfl rfl (by decide) (by decide) (by decide) (fun _ => rfl) (fun u_2 H locs hw hP hD hS => ?_)
    have eu_2 := hw
    have ok_2 : okA u_2 := by rw [eu_2]; exact (ok_expect hA9)
    refine lv_aload_n hx hb d_A_operands_15 rfl (lv_at hl 0 rfl) ?_
    refine va_get (D := D) (ci := 0) (v := .int (u_2.1 3)) (C := "WindowMachine$Assembler") (T := T_A) (N := 5) hx hb ht zi_A hown hK hP 0 rfl rfl 4 (by decide) (ht _ zw_50) (fun _ h9 => h9) rfl d_A_operands_16 ?_
    by_cases c_4 : (u_2.1 3) = (1 : Int32)
    · refine lv_tableIn (tgt := 56) hx hb d_A_operands_19 (by rw [c_4]; decide) (by rw [c_4]; decide) (by rw [c_4]; rfl) (by decide) ?_
      refine lv_aload_n hx hb d_A_operands_56 rfl (lv_at hl 0 rfl) ?_
      refine zc_i (w2 := fun u9 => wA a b k u9) (va_runV (As := []) (rest := []) ⟨hx, hb, hml, hown, ht⟩ (mt_A_target l D a b k H.size u_2 ok_2) (cwV 0 ht (zgV zw_412 zw_414 zs_12 zw_3 zw_415) rfl rfl rfl kd_A_target ⟨Nat.le_of_ble_eq_true rfl, Nat.le_of_ble_eq_true rfl⟩) ⟨zw_blind zw_tt, va_recv (hK.sub (tys' := [(k, .char)]) [0] rfl) (hP.sub (ws' := wA a b k u_2) [0, 1] rfl) (ci := 0) (q0 := 0) rfl rfl, zw_go (hP.sub (ws' := wA a b k u_2) [0, 1] rfl) (hD.sub (ws' := wA a b k u_2) [0, 1] (by decide) rfl) (hK.sub (tys' := [(k, .char)]) [0] rfl) (fun _ _ _ => trivial)⟩ rfl rfl hl.1 rfl (lv_room (Nat.le_of_ble_eq_true rfl)) d_A_operands_57 ⟨Nat.le_of_ble_eq_true rfl, Nat.le_of_ble_eq_true rfl⟩) hP hD hS hA [0, 1] [] [0, 1] rfl rfl (by decide) (by decide) (by decide) (fun _ => rfl) (fun r_5 u_5 H locs hw hP hD hS => ?_)
      obtain ⟨er_5, eu_5⟩ := hw
      have ok_5 : okA u_5 := by rw [eu_5]; exact (ok_target ok_2)
      exact zl_i (u := u_5) hx hb hr hlocks hS hP hD (⟨by subst eu_2; subst er_5; subst eu_5; simp only [f_operands, if_neg c_1, if_pos c_4], by subst eu_2; subst er_5; subst eu_5; simp only [f_operands, if_neg c_1, if_pos c_4]⟩) d_A_operands_60
    by_cases c_6 : (u_2.1 3) = (2 : Int32)
    · refine lv_tableIn (tgt := 61) hx hb d_A_operands_19 (by rw [c_6]; decide) (by rw [c_6]; decide) (by rw [c_6]; rfl) (by decide) ?_
      refine lv_aload_n hx hb d_A_operands_61 rfl (lv_at hl 0 rfl) ?_
      refine zc_i (w2 := fun u9 => wA a b k u9) (va_runV (As := []) (rest := []) ⟨hx, hb, hml, hown, ht⟩ (mt_A_sources l D a b k H.size u_2 ok_2) (cwV 0 ht (zgV zw_428 zw_430 zs_16 zw_3 zw_431) rfl rfl rfl kd_A_sources ⟨Nat.le_of_ble_eq_true rfl, Nat.le_of_ble_eq_true rfl⟩) ⟨zw_blind zw_tt, va_recv (hK.sub (tys' := [(k, .char)]) [0] rfl) (hP.sub (ws' := wA a b k u_2) [0, 1] rfl) (ci := 0) (q0 := 0) rfl rfl, zw_go (hP.sub (ws' := wA a b k u_2) [0, 1] rfl) (hD.sub (ws' := wA a b k u_2) [0, 1] (by decide) rfl) (hK.sub (tys' := [(k, .char)]) [0] rfl) (fun _ _ _ => trivial)⟩ rfl rfl hl.1 rfl (lv_room (Nat.le_of_ble_eq_true rfl)) d_A_operands_62 ⟨Nat.le_of_ble_eq_true rfl, Nat.le_of_ble_eq_true rfl⟩) hP hD hS hA [0, 1] [] [0, 1] rfl rfl (by decide) (by decide) (by decide) (fun _ => rfl) (fun r_7 u_7 H locs hw hP hD hS => ?_)
      obtain ⟨er_7, eu_7⟩ := hw
      have ok_7 : okA u_7 := by rw [eu_7]; exact (ok_sources ok_2)
      exact zl_i (u := u_7) hx hb hr hlocks hS hP hD (⟨by subst eu_2; subst er_7; subst eu_7; simp only [f_operands, if_neg c_1, if_neg c_4, if_pos c_6], by subst eu_2; subst er_7; subst eu_7; simp only [f_operands, if_neg c_1, if_neg c_4, if_pos c_6]⟩) d_A_operands_65
    by_cases c_8 : (u_2.1 3) = (3 : Int32)
    · refine lv_tableIn (tgt := 66) hx hb d_A_operands_19 (by rw [c_8]; decide) (by rw [c_8]; decide) (by rw [c_8]; rfl) (by decide) ?_
      refine lv_aload_n hx hb d_A_operands_66 rfl (lv_at hl 0 rfl) ?_
      refine lv_aload_n hx hb d_A_operands_67 rfl (lv_at hl 0 rfl) ?_
      refine zc_i (w2 := fun u9 => wA a b k u9) (va_runV (As := []) (rest := [.ref a]) ⟨hx, hb, hml, hown, ht⟩ (mt_A_sources l D a b k H.size u_2 ok_2) (cwV 0 ht (zgV zw_428 zw_430 zs_16 zw_3 zw_431) rfl rfl rfl kd_A_sources ⟨Nat.le_of_ble_eq_true rfl, Nat.le_of_ble_eq_true rfl⟩) ⟨zw_blind zw_tt, va_recv (hK.sub (tys' := [(k, .char)]) [0] rfl) (hP.sub (ws' := wA a b k u_2) [0, 1] rfl) (ci := 0) (q0 := 0) rfl rfl, zw_go (hP.sub (ws' := wA a b k u_2) [0, 1] rfl) (hD.sub (ws' := wA a b k u_2) [0, 1] (by decide) rfl) (hK.sub (tys' := [(k, .char)]) [0] rfl) (fun _ _ _ => trivial)⟩ rfl rfl hl.1 rfl (lv_room (Nat.le_of_ble_eq_true rfl)) d_A_operands_68 ⟨Nat.le_of_ble_eq_true rfl, Nat.le_of_ble_eq_true rfl⟩) hP hD hS hA [0, 1] [] [0, 1] rfl rfl (by decide) (by decide) (by decide) (fun _ => rfl) (fun r_9 u_9 H locs hw hP hD hS => ?_)
      obtain ⟨er_9, eu_9⟩ := hw
      have ok_9 : okA u_9 := by rw [eu_9]; exact (ok_sources ok_2)
      refine zc_i (w2 := fun u9 => wA a b k u9) (va_runV (As := [.int r_9]) (rest := []) ⟨hx, hb, hml, hown, ht⟩ (mt_A_behind l D a b k H.size u_9 r_9 ok_9) (cwV 1 ht (zgV zw_432 zw_434 zs_17 zw_3 zw_435) rfl rfl rfl kd_A_behind ⟨Nat.le_of_ble_eq_true rfl, Nat.le_of_ble_eq_true rfl⟩) ⟨zw_blind zw_tt, va_recv (hK.sub (tys' := [(k, .char)]) [0] rfl) (hP.sub (ws' := wA a b k u_9) [0, 1] rfl) (ci := 0) (q0 := 0) rfl rfl, zw_go (hP.sub (ws' := wA a b k u_9) [0, 1] rfl) (hD.sub (ws' := wA a b k u_9) [0, 1] (by decide) rfl) (hK.sub (tys' := [(k, .char)]) [0] rfl) (fun _ _ _ => trivial)⟩ rfl rfl hl.1 rfl (lv_room (Nat.le_of_ble_eq_true rfl)) d_A_operands_71 ⟨Nat.le_of_ble_eq_true rfl, Nat.le_of_ble_eq_true rfl⟩) hP hD hS hA [0, 1] [] [0, 1] rfl rfl (by decide) (by decide) (by decide) (fun _ => rfl) (fun r_10 u_10 H locs hw hP hD hS => ?_)
      obtain ⟨er_10, eu_10⟩ := hw
      have ok_10 : okA u_10 := by rw [eu_10]; exact (ok_behind ok_9)
      refine lv_aload_n hx hb d_A_operands_74 rfl (lv_at hl 0 rfl) ?_
      refine zc_i (w2 := fun u9 => wA a b k u9) (va_runV (As := []) (rest := [.int r_10]) ⟨hx, hb, hml, hown, ht⟩ (mt_A_target l D a b k H.size u_10 ok_10) (cwV 0 ht (zgV zw_412 zw_414 zs_12 zw_3 zw_415) rfl rfl rfl kd_A_target ⟨Nat.le_of_ble_eq_true rfl, Nat.le_of_ble_eq_true rfl⟩) ⟨zw_blind zw_tt, va_recv (hK.sub (tys' := [(k, .char)]) [0] rfl) (hP.sub (ws' := wA a b k u_10) [0, 1] rfl) (ci := 0) (q0 := 0) rfl rfl, zw_go (hP.sub (ws' := wA a b k u_10) [0, 1] rfl) (hD.sub (ws' := wA a b k u_10) [0, 1] (by decide) rfl) (hK.sub (tys' := [(k, .char)]) [0] rfl) (fun _ _ _ => trivial)⟩ rfl rfl hl.1 rfl (lv_room (Nat.le_of_ble_eq_true rfl)) d_A_operands_75 ⟨Nat.le_of_ble_eq_true rfl, Nat.le_of_ble_eq_true rfl⟩) hP hD hS hA [0, 1] [] [0, 1] rfl rfl (by decide) (by decide) (by decide) (fun _ => rfl) (fun r_11 u_11 H locs hw hP hD hS => ?_)
      obtain ⟨er_11, eu_11⟩ := hw
      have ok_11 : okA u_11 := by rw [eu_11]; exact (ok_target ok_10)
      refine lv_ior hx hb d_A_operands_78 ?_
      exact zl_i (u := u_11) hx hb hr hlocks hS hP hD (⟨by subst eu_2; subst er_9; subst eu_9; subst er_10; subst eu_10; subst er_11; subst eu_11; simp only [f_operands, if_neg c_1, if_neg c_4, if_neg c_6, if_pos c_8], by subst eu_2; subst er_9; subst eu_9; subst er_10; subst eu_10; subst er_11; subst eu_11; simp only [f_operands, if_neg c_1, if_neg c_4, if_neg c_6, if_pos c_8]⟩) d_A_operands_79
    by_cases c_12 : (u_2.1 3) = (4 : Int32)
    · refine lv_tableIn (tgt := 80) hx hb d_A_operands_19 (by rw [c_12]; decide) (by rw [c_12]; decide) (by rw [c_12]; rfl) (by decide) ?_
      refine lv_aload_n hx hb d_A_operands_80 rfl (lv_at hl 0 rfl) ?_
      refine lv_aload_n hx hb d_A_operands_81 rfl (lv_at hl 0 rfl) ?_
      refine zc_i (w2 := fun u9 => wA a b k u9) (va_runV (As := []) (rest := [.ref a]) ⟨hx, hb, hml, hown, ht⟩ (mt_A_target l D a b k H.size u_2 ok_2) (cwV 0 ht (zgV zw_412 zw_414 zs_12 zw_3 zw_415) rfl rfl rfl kd_A_target ⟨Nat.le_of_ble_eq_true rfl, Nat.le_of_ble_eq_true rfl⟩) ⟨zw_blind zw_tt, va_recv (hK.sub (tys' := [(k, .char)]) [0] rfl) (hP.sub (ws' := wA a b k u_2) [0, 1] rfl) (ci := 0) (q0 := 0) rfl rfl, zw_go (hP.sub (ws' := wA a b k u_2) [0, 1] rfl) (hD.sub (ws' := wA a b k u_2) [0, 1] (by decide) rfl) (hK.sub (tys' := [(k, .char)]) [0] rfl) (fun _ _ _ => trivial)⟩ rfl rfl hl.1 rfl (lv_room (Nat.le_of_ble_eq_true rfl)) d_A_operands_82 ⟨Nat.le_of_ble_eq_true rfl, Nat.le_of_ble_eq_true rfl⟩) hP hD hS hA [0, 1] [] [0, 1] rfl rfl (by decide) (by decide) (by decide) (fun _ => rfl) (fun r_13 u_13 H locs hw hP hD hS => ?_)
      obtain ⟨er_13, eu_13⟩ := hw
      have ok_13 : okA u_13 := by rw [eu_13]; exact (ok_target ok_2)
      refine zc_i (w2 := fun u9 => wA a b k u9) (va_runV (As := [.int r_13]) (rest := []) ⟨hx, hb, hml, hown, ht⟩ (mt_A_behind l D a b k H.size u_13 r_13 ok_13) (cwV 1 ht (zgV zw_432 zw_434 zs_17 zw_3 zw_435) rfl rfl rfl kd_A_behind ⟨Nat.le_of_ble_eq_true rfl, Nat.le_of_ble_eq_true rfl⟩) ⟨zw_blind zw_tt, va_recv (hK.sub (tys' := [(k, .char)]) [0] rfl) (hP.sub (ws' := wA a b k u_13) [0, 1] rfl) (ci := 0) (q0 := 0) rfl rfl, zw_go (hP.sub (ws' := wA a b k u_13) [0, 1] rfl) (hD.sub (ws' := wA a b k u_13) [0, 1] (by decide) rfl) (hK.sub (tys' := [(k, .char)]) [0] rfl) (fun _ _ _ => trivial)⟩ rfl rfl hl.1 rfl (lv_room (Nat.le_of_ble_eq_true rfl)) d_A_operands_85 ⟨Nat.le_of_ble_eq_true rfl, Nat.le_of_ble_eq_true rfl⟩) hP hD hS hA [0, 1] [] [0, 1] rfl rfl (by decide) (by decide) (by decide) (fun _ => rfl) (fun r_14 u_14 H locs hw hP hD hS => ?_)
      obtain ⟨er_14, eu_14⟩ := hw
      have ok_14 : okA u_14 := by rw [eu_14]; exact (ok_behind ok_13)
      refine lv_aload_n hx hb d_A_operands_88 rfl (lv_at hl 0 rfl) ?_
      refine zc_i (w2 := fun u9 => wA a b k u9) (va_runV (As := []) (rest := [.int r_14]) ⟨hx, hb, hml, hown, ht⟩ (mt_A_sources l D a b k H.size u_14 ok_14) (cwV 0 ht (zgV zw_428 zw_430 zs_16 zw_3 zw_431) rfl rfl rfl kd_A_sources ⟨Nat.le_of_ble_eq_true rfl, Nat.le_of_ble_eq_true rfl⟩) ⟨zw_blind zw_tt, va_recv (hK.sub (tys' := [(k, .char)]) [0] rfl) (hP.sub (ws' := wA a b k u_14) [0, 1] rfl) (ci := 0) (q0 := 0) rfl rfl, zw_go (hP.sub (ws' := wA a b k u_14) [0, 1] rfl) (hD.sub (ws' := wA a b k u_14) [0, 1] (by decide) rfl) (hK.sub (tys' := [(k, .char)]) [0] rfl) (fun _ _ _ => trivial)⟩ rfl rfl hl.1 rfl (lv_room (Nat.le_of_ble_eq_true rfl)) d_A_operands_89 ⟨Nat.le_of_ble_eq_true rfl, Nat.le_of_ble_eq_true rfl⟩) hP hD hS hA [0, 1] [] [0, 1] rfl rfl (by decide) (by decide) (by decide) (fun _ => rfl) (fun r_15 u_15 H locs hw hP hD hS => ?_)
      obtain ⟨er_15, eu_15⟩ := hw
      have ok_15 : okA u_15 := by rw [eu_15]; exact (ok_sources ok_14)
      refine lv_ior hx hb d_A_operands_92 ?_
      exact zl_i (u := u_15) hx hb hr hlocks hS hP hD (⟨by subst eu_2; subst er_13; subst eu_13; subst er_14; subst eu_14; subst er_15; subst eu_15; simp only [f_operands, if_neg c_1, if_neg c_4, if_neg c_6, if_neg c_8, if_pos c_12], by subst eu_2; subst er_13; subst eu_13; subst er_14; subst eu_14; subst er_15; subst eu_15; simp only [f_operands, if_neg c_1, if_neg c_4, if_neg c_6, if_neg c_8, if_pos c_12]⟩) d_A_operands_93
    by_cases c_16 : (u_2.1 3) = (5 : Int32)
    · refine lv_tableIn (tgt := 94) hx hb d_A_operands_19 (by rw [c_16]; decide) (by rw [c_16]; decide) (by rw [c_16]; rfl) (by decide) ?_
      refine lv_aload_n hx hb d_A_operands_94 rfl (lv_at hl 0 rfl) ?_
      refine lv_aload_n hx hb d_A_operands_95 rfl (lv_at hl 0 rfl) ?_
      refine lv_iconst (v := (0 : Int32)) hx hb d_A_operands_96 (by decide) ?_
      refine lv_ldc (v := (4194303 : Int32)) hx hb hown (ht _ zw_440) d_A_operands_97 ?_
      refine zc_i (w2 := fun u9 => wA a b k u9) (va_runV (As := [.int (0 : Int32), .int (4194303 : Int32)]) (rest := [.ref a]) ⟨hx, hb, hml, hown, ht⟩ (mt_A_number l D a b k H.size u_2 (0 : Int32) (4194303 : Int32) ok_2) (cwV 2 ht (zgV zw_436 zw_438 zs_18 zw_3 zw_439) rfl rfl rfl kd_A_number ⟨Nat.le_of_ble_eq_true rfl, Nat.le_of_ble_eq_true rfl⟩) ⟨zw_blind zw_tt, va_recv (hK.sub (tys' := [(k, .char)]) [0] rfl) (hP.sub (ws' := wA a b k u_2) [0, 1] rfl) (ci := 0) (q0 := 0) rfl rfl, zw_go (hP.sub (ws' := wA a b k u_2) [0, 1] rfl) (hD.sub (ws' := wA a b k u_2) [0, 1] (by decide) rfl) (hK.sub (tys' := [(k, .char)]) [0] rfl) (fun _ _ _ => trivial)⟩ rfl rfl hl.1 rfl (lv_room (Nat.le_of_ble_eq_true rfl)) d_A_operands_99 ⟨Nat.le_of_ble_eq_true rfl, Nat.le_of_ble_eq_true rfl⟩) hP hD hS hA [0, 1] [] [0, 1] rfl rfl (by decide) (by decide) (by decide) (fun _ => rfl) (fun r_17 u_17 H locs hw hP hD hS => ?_)
      obtain ⟨er_17, eu_17⟩ := hw
      have ok_17 : okA u_17 := by rw [eu_17]; exact (ok_number ok_2)
      refine zc_i (w2 := fun u9 => wA a b k u9) (va_runV (As := [.int r_17]) (rest := []) ⟨hx, hb, hml, hown, ht⟩ (mt_A_behind l D a b k H.size u_17 r_17 ok_17) (cwV 1 ht (zgV zw_432 zw_434 zs_17 zw_3 zw_435) rfl rfl rfl kd_A_behind ⟨Nat.le_of_ble_eq_true rfl, Nat.le_of_ble_eq_true rfl⟩) ⟨zw_blind zw_tt, va_recv (hK.sub (tys' := [(k, .char)]) [0] rfl) (hP.sub (ws' := wA a b k u_17) [0, 1] rfl) (ci := 0) (q0 := 0) rfl rfl, zw_go (hP.sub (ws' := wA a b k u_17) [0, 1] rfl) (hD.sub (ws' := wA a b k u_17) [0, 1] (by decide) rfl) (hK.sub (tys' := [(k, .char)]) [0] rfl) (fun _ _ _ => trivial)⟩ rfl rfl hl.1 rfl (lv_room (Nat.le_of_ble_eq_true rfl)) d_A_operands_102 ⟨Nat.le_of_ble_eq_true rfl, Nat.le_of_ble_eq_true rfl⟩) hP hD hS hA [0, 1] [] [0, 1] rfl rfl (by decide) (by decide) (by decide) (fun _ => rfl) (fun r_18 u_18 H locs hw hP hD hS => ?_)
      obtain ⟨er_18, eu_18⟩ := hw
      have ok_18 : okA u_18 := by rw [eu_18]; exact (ok_behind ok_17)
      refine lv_aload_n hx hb d_A_operands_105 rfl (lv_at hl 0 rfl) ?_
      refine zc_i (w2 := fun u9 => wA a b k u9) (va_runV (As := []) (rest := [.int r_18]) ⟨hx, hb, hml, hown, ht⟩ (mt_A_target l D a b k H.size u_18 ok_18) (cwV 0 ht (zgV zw_412 zw_414 zs_12 zw_3 zw_415) rfl rfl rfl kd_A_target ⟨Nat.le_of_ble_eq_true rfl, Nat.le_of_ble_eq_true rfl⟩) ⟨zw_blind zw_tt, va_recv (hK.sub (tys' := [(k, .char)]) [0] rfl) (hP.sub (ws' := wA a b k u_18) [0, 1] rfl) (ci := 0) (q0 := 0) rfl rfl, zw_go (hP.sub (ws' := wA a b k u_18) [0, 1] rfl) (hD.sub (ws' := wA a b k u_18) [0, 1] (by decide) rfl) (hK.sub (tys' := [(k, .char)]) [0] rfl) (fun _ _ _ => trivial)⟩ rfl rfl hl.1 rfl (lv_room (Nat.le_of_ble_eq_true rfl)) d_A_operands_106 ⟨Nat.le_of_ble_eq_true rfl, Nat.le_of_ble_eq_true rfl⟩) hP hD hS hA [0, 1] [] [0, 1] rfl rfl (by decide) (by decide) (by decide) (fun _ => rfl) (fun r_19 u_19 H locs hw hP hD hS => ?_)
      obtain ⟨er_19, eu_19⟩ := hw
      have ok_19 : okA u_19 := by rw [eu_19]; exact (ok_target ok_18)
      refine lv_ior hx hb d_A_operands_109 ?_
      exact zl_i (u := u_19) hx hb hr hlocks hS hP hD (⟨by subst eu_2; subst er_17; subst eu_17; subst er_18; subst eu_18; subst er_19; subst eu_19; simp only [f_operands, if_neg c_1, if_neg c_4, if_neg c_6, if_neg c_8, if_neg c_12, if_pos c_16], by subst eu_2; subst er_17; subst eu_17; subst er_18; subst eu_18; subst er_19; subst eu_19; simp only [f_operands, if_neg c_1, if_neg c_4, if_neg c_6, if_neg c_8, if_neg c_12, if_pos c_16]⟩) d_A_operands_110
    by_cases c_20 : (u_2.1 3) = (6 : Int32)
    · refine lv_tableIn (tgt := 111) hx hb d_A_operands_19 (by rw [c_20]; decide) (by rw [c_20]; decide) (by rw [c_20]; rfl) (by decide) ?_
      refine lv_aload_n hx hb d_A_operands_111 rfl (lv_at hl 0 rfl) ?_
      refine lv_ldc (v := (-536870912 : Int32)) hx hb hown (ht _ zw_441) d_A_operands_112 ?_
      refine lv_ldc (v := (536870911 : Int32)) hx hb hown (ht _ zw_442) d_A_operands_114 ?_
      refine zc_i (w2 := fun u9 => wA a b k u9) (va_runV (As := [.int (-536870912 : Int32), .int (536870911 : Int32)]) (rest := []) ⟨hx, hb, hml, hown, ht⟩ (mt_A_number l D a b k H.size u_2 (-536870912 : Int32) (536870911 : Int32) ok_2) (cwV 2 ht (zgV zw_436 zw_438 zs_18 zw_3 zw_439) rfl rfl rfl kd_A_number ⟨Nat.le_of_ble_eq_true rfl, Nat.le_of_ble_eq_true rfl⟩) ⟨zw_blind zw_tt, va_recv (hK.sub (tys' := [(k, .char)]) [0] rfl) (hP.sub (ws' := wA a b k u_2) [0, 1] rfl) (ci := 0) (q0 := 0) rfl rfl, zw_go (hP.sub (ws' := wA a b k u_2) [0, 1] rfl) (hD.sub (ws' := wA a b k u_2) [0, 1] (by decide) rfl) (hK.sub (tys' := [(k, .char)]) [0] rfl) (fun _ _ _ => trivial)⟩ rfl rfl hl.1 rfl (lv_room (Nat.le_of_ble_eq_true rfl)) d_A_operands_116 ⟨Nat.le_of_ble_eq_true rfl, Nat.le_of_ble_eq_true rfl⟩) hP hD hS hA [0, 1] [] [0, 1] rfl rfl (by decide) (by decide) (by decide) (fun _ => rfl) (fun r_21 u_21 H locs hw hP hD hS => ?_)
      obtain ⟨er_21, eu_21⟩ := hw
      have ok_21 : okA u_21 := by rw [eu_21]; exact (ok_number ok_2)
      exact zl_i (u := u_21) hx hb hr hlocks hS hP hD (⟨by subst eu_2; subst er_21; subst eu_21; simp only [f_operands, if_neg c_1, if_neg c_4, if_neg c_6, if_neg c_8, if_neg c_12, if_neg c_16, if_pos c_20], by subst eu_2; subst er_21; subst eu_21; simp only [f_operands, if_neg c_1, if_neg c_4, if_neg c_6, if_neg c_8, if_neg c_12, if_neg c_16, if_pos c_20]⟩) d_A_operands_119
    refine lv_tableOut (tgt := 120) hx hb d_A_operands_19 (by have := lv_neT c_4 (a := 1) (by decide); have := lv_neT c_6 (a := 2) (by decide); have := lv_neT c_8 (a := 3) (by decide); have := lv_neT c_12 (a := 4) (by decide); have := lv_neT c_16 (a := 5) (by decide); have := lv_neT c_20 (a := 6) (by decide); omega) (by decide) ?_
    refine lv_aload_n hx hb d_A_operands_120 rfl (lv_at hl 0 rfl) ?_
    refine zc_i (w2 := fun u9 => wA a b k u9) (va_runV (As := []) (rest := []) ⟨hx, hb, hml, hown, ht⟩ (mt_A_distanceAndAnnul l D a b k H.size u_2 ok_2) (cwV 0 ht (zgV zw_443 zw_445 zs_19 zw_3 zw_446) rfl rfl rfl kd_A_distanceAndAnnul ⟨Nat.le_of_ble_eq_true rfl, Nat.le_of_ble_eq_true rfl⟩) ⟨zw_blind zw_tt, va_recv (hK.sub (tys' := [(k, .char)]) [0] rfl) (hP.sub (ws' := wA a b k u_2) [0, 1] rfl) (ci := 0) (q0 := 0) rfl rfl, zw_go (hP.sub (ws' := wA a b k u_2) [0, 1] rfl) (hD.sub (ws' := wA a b k u_2) [0, 1] (by decide) rfl) (hK.sub (tys' := [(k, .char)]) [0] rfl) (fun _ _ _ => trivial)⟩ rfl rfl hl.1 rfl (lv_room (Nat.le_of_ble_eq_true rfl)) d_A_operands_121 ⟨Nat.le_of_ble_eq_true rfl, Nat.le_of_ble_eq_true rfl⟩) hP hD hS hA [0, 1] [] [0, 1] rfl rfl (by decide) (by decide) (by decide) (fun _ => rfl) (fun r_22 u_22 H locs hw hP hD hS => ?_)
    obtain ⟨er_22, eu_22⟩ := hw
    have ok_22 : okA u_22 := by rw [eu_22]; exact (ok_distanceAndAnnul ok_2)
    exact zl_i (u := u_22) hx hb hr hlocks hS hP hD (⟨by subst eu_2; subst er_22; subst eu_22; simp only [f_operands, if_neg c_1, if_neg c_4, if_neg c_6, if_neg c_8, if_neg c_12, if_neg c_16, if_neg c_20], by subst eu_2; subst er_22; subst eu_22; simp only [f_operands, if_neg c_1, if_neg c_4, if_neg c_6, if_neg c_8, if_neg c_12, if_neg c_16, if_neg c_20]⟩) d_A_operands_124
  refine lv_iconst (v := (0 : Int32)) hx hb d_A_operands_7 (by decide) ?_
  exact zl_i (u := st) hx hb hr hlocks hS hP hD (⟨by simp only [f_operands, if_pos c_1], by simp only [f_operands, if_pos c_1]⟩) d_A_operands_8
theorem ok_operands {st : SA} (h : okA st) : okA (f_operands st).2 := by
  have h1 := ok_expect (p := 32) h
  unfold f_operands
  split
  · exact h
  · dsimp only
    repeat' first | with_reducible exact ok_target h1 | with_reducible exact ok_sources h1 | with_reducible exact ok_target (ok_behind (ok_sources h1)) | with_reducible exact ok_sources (ok_behind (ok_target h1)) | with_reducible exact ok_target (ok_behind (ok_number h1)) | with_reducible exact ok_number h1 | with_reducible exact ok_distanceAndAnnul h1 | with_reducible refine okA_ite2 ?_ ?_
theorem d_A_formOf_0 : decode c_A_formOf 0 = .ok (.iload_n 0, 1) := by decide +kernel
theorem d_A_formOf_1 : decode c_A_formOf 1 = .ok (.bipush 40, 2) := by decide +kernel
theorem d_A_formOf_3 : decode c_A_formOf 3 = .ok (.if_icmp .lt 11, 3) := by decide +kernel
theorem d_A_formOf_6 : decode c_A_formOf 6 = .ok (.iload_n 0, 1) := by decide +kernel
theorem d_A_formOf_7 : decode c_A_formOf 7 = .ok (.bipush 43, 2) := by decide +kernel
theorem d_A_formOf_9 : decode c_A_formOf 9 = .ok (.if_icmp .gt 5, 3) := by decide +kernel
theorem d_A_formOf_12 : decode c_A_formOf 12 = .ok (.iconst 1, 1) := by decide +kernel
theorem d_A_formOf_13 : decode c_A_formOf 13 = .ok (.ireturn, 1) := by decide +kernel
theorem d_A_formOf_14 : decode c_A_formOf 14 = .ok (.iload_n 0, 1) := by decide +kernel
theorem d_A_formOf_15 : decode c_A_formOf 15 = .ok (.bipush 48, 2) := by decide +kernel
theorem d_A_formOf_17 : decode c_A_formOf 17 = .ok (.if_icmp .lt 9, 3) := by decide +kernel
theorem d_A_formOf_20 : decode c_A_formOf 20 = .ok (.iload_n 0, 1) := by decide +kernel
theorem d_A_formOf_21 : decode c_A_formOf 21 = .ok (.bipush 51, 2) := by decide +kernel
theorem d_A_formOf_23 : decode c_A_formOf 23 = .ok (.if_icmp .le 9, 3) := by decide +kernel
theorem d_A_formOf_26 : decode c_A_formOf 26 = .ok (.iload_n 0, 1) := by decide +kernel
theorem d_A_formOf_27 : decode c_A_formOf 27 = .ok (.bipush 57, 2) := by decide +kernel
theorem d_A_formOf_29 : decode c_A_formOf 29 = .ok (.if_icmp .ne 5, 3) := by decide +kernel
theorem d_A_formOf_32 : decode c_A_formOf 32 = .ok (.iconst 2, 1) := by decide +kernel
theorem d_A_formOf_33 : decode c_A_formOf 33 = .ok (.ireturn, 1) := by decide +kernel
theorem d_A_formOf_34 : decode c_A_formOf 34 = .ok (.iconst 3, 1) := by decide +kernel
theorem d_A_formOf_35 : decode c_A_formOf 35 = .ok (.ireturn, 1) := by decide +kernel
theorem kd_A_formOf : (y_A_formOf).cls = "WindowMachine$Assembler" ∧ (y_A_formOf).cls ≠ "java/lang/invoke/MethodHandle" ∧ (y_A_formOf).cls ≠ "java/lang/invoke/VarHandle" ∧ (parseMethodDescriptor (y_A_formOf).desc).map (fun d => d.parameters.length) = some 1 := by decide +kernel
def f_formOf (p0 : Int32) : Int32 := (if p0 < (40 : Int32) then (if p0 < (48 : Int32) then (if p0 = (57 : Int32) then (2 : Int32) else (3 : Int32)) else (if p0 ≤ (51 : Int32) then (2 : Int32) else (if p0 = (57 : Int32) then (2 : Int32) else (3 : Int32)))) else (if (43 : Int32) < p0 then (if p0 < (48 : Int32) then (if p0 = (57 : Int32) then (2 : Int32) else (3 : Int32)) else (if p0 ≤ (51 : Int32) then (2 : Int32) else (if p0 = (57 : Int32) then (2 : Int32) else (3 : Int32)))) else (1 : Int32)))
set_option maxHeartbeats 4000000 in
set_option maxRecDepth 100000 in
theorem mt_A_formOf (l : Launch) (D : va_G) (sz : Nat) (p0 : Int32) : Met l y_A_formOf w_A_formOf ({ frames := 0, cells := 0, slots := 0, locals := 0 }) (va_Pc [.int p0] (zw_pre D vwCl [] sz ([]) (fun _ => True))) (va_Qi (fun r (_ : Unit) => r = f_formOf p0) (fun u t => zw_at D vwCl (va_A ([]) sz) ((fun (_ : Unit) => []) u) t) (va_A ([]) sz)) 0 0 (va_A ([]) sz) := by
  refine zm (Qf := fun A => va_Qi (fun r (_ : Unit) => r = f_formOf p0) (fun u t => zw_at D vwCl A ((fun (_ : Unit) => []) u) t) A) (Zf := fun _ _ => True) (cc := c_A_formOf) (nL := 1) (ret := (some .int)) (by decide) rfl (Nat.le_of_ble_eq_true rfl) ?_
  intro p e s m below meth c9 A H locs ls hx hb hml hown hts hr hlocks hA hK hP hD hS hZ hl
  have hl : lv_has ls 1 [(0, .int p0)] := hl
  have ht : ∀ w9 ∈ zT, w9.before _ s = true := fun w9 h9 => hts w9 (List.mem_cons_of_mem _ h9)
  refine lv_iload_n hx hb d_A_formOf_0 rfl (lv_at hl 0 rfl) ?_
  refine lv_bipush (v := (40 : Int32)) hx hb d_A_formOf_1 (by decide) ?_
  refine lv_icmp_lt (tgt := 14) hx hb d_A_formOf_3 (by decide) (fun c_1 => ?_) (fun c_1 => ?_)
  · refine lv_iload_n hx hb d_A_formOf_14 rfl (lv_at hl 0 rfl) ?_
    refine lv_bipush (v := (48 : Int32)) hx hb d_A_formOf_15 (by decide) ?_
    refine lv_icmp_lt (tgt := 26) hx hb d_A_formOf_17 (by decide) (fun c_2 => ?_) (fun c_2 => ?_)
    · refine lv_iload_n hx hb d_A_formOf_26 rfl (lv_at hl 0 rfl) ?_
      refine lv_bipush (v := (57 : Int32)) hx hb d_A_formOf_27 (by decide) ?_
      refine lv_icmp_ne (tgt := 34) hx hb d_A_formOf_29 (by decide) (fun c_3 => ?_) (fun c_3 => ?_)
      · refine lv_iconst (v := (3 : Int32)) hx hb d_A_formOf_34 (by decide) ?_
        exact zl_i (u := ()) hx hb hr hlocks hS hP hD (by simp only [f_formOf, if_pos c_1, if_pos c_2, if_neg c_3]) d_A_formOf_35
      refine lv_iconst (v := (2 : Int32)) hx hb d_A_formOf_32 (by decide) ?_
      exact zl_i (u := ()) hx hb hr hlocks hS hP hD (by simp only [f_formOf, if_pos c_1, if_pos c_2, if_pos c_3]) d_A_formOf_33
    refine lv_iload_n hx hb d_A_formOf_20 rfl (lv_at hl 0 rfl) ?_
    refine lv_bipush (v := (51 : Int32)) hx hb d_A_formOf_21 (by decide) ?_
    refine lv_icmp_le (tgt := 32) hx hb d_A_formOf_23 (by decide) (fun c_4 => ?_) (fun c_4 => ?_)
    · refine lv_iconst (v := (2 : Int32)) hx hb d_A_formOf_32 (by decide) ?_
      exact zl_i (u := ()) hx hb hr hlocks hS hP hD (by simp only [f_formOf, if_pos c_1, if_neg c_2, if_pos c_4]) d_A_formOf_33
    refine lv_iload_n hx hb d_A_formOf_26 rfl (lv_at hl 0 rfl) ?_
    refine lv_bipush (v := (57 : Int32)) hx hb d_A_formOf_27 (by decide) ?_
    refine lv_icmp_ne (tgt := 34) hx hb d_A_formOf_29 (by decide) (fun c_5 => ?_) (fun c_5 => ?_)
    · refine lv_iconst (v := (3 : Int32)) hx hb d_A_formOf_34 (by decide) ?_
      exact zl_i (u := ()) hx hb hr hlocks hS hP hD (by simp only [f_formOf, if_pos c_1, if_neg c_2, if_neg c_4, if_neg c_5]) d_A_formOf_35
    refine lv_iconst (v := (2 : Int32)) hx hb d_A_formOf_32 (by decide) ?_
    exact zl_i (u := ()) hx hb hr hlocks hS hP hD (by simp only [f_formOf, if_pos c_1, if_neg c_2, if_neg c_4, if_pos c_5]) d_A_formOf_33
  refine lv_iload_n hx hb d_A_formOf_6 rfl (lv_at hl 0 rfl) ?_
  refine lv_bipush (v := (43 : Int32)) hx hb d_A_formOf_7 (by decide) ?_
  refine lv_icmp_gt (tgt := 14) hx hb d_A_formOf_9 (by decide) (fun c_6 => ?_) (fun c_6 => ?_)
  · refine lv_iload_n hx hb d_A_formOf_14 rfl (lv_at hl 0 rfl) ?_
    refine lv_bipush (v := (48 : Int32)) hx hb d_A_formOf_15 (by decide) ?_
    refine lv_icmp_lt (tgt := 26) hx hb d_A_formOf_17 (by decide) (fun c_7 => ?_) (fun c_7 => ?_)
    · refine lv_iload_n hx hb d_A_formOf_26 rfl (lv_at hl 0 rfl) ?_
      refine lv_bipush (v := (57 : Int32)) hx hb d_A_formOf_27 (by decide) ?_
      refine lv_icmp_ne (tgt := 34) hx hb d_A_formOf_29 (by decide) (fun c_8 => ?_) (fun c_8 => ?_)
      · refine lv_iconst (v := (3 : Int32)) hx hb d_A_formOf_34 (by decide) ?_
        exact zl_i (u := ()) hx hb hr hlocks hS hP hD (by simp only [f_formOf, if_neg c_1, if_pos c_6, if_pos c_7, if_neg c_8]) d_A_formOf_35
      refine lv_iconst (v := (2 : Int32)) hx hb d_A_formOf_32 (by decide) ?_
      exact zl_i (u := ()) hx hb hr hlocks hS hP hD (by simp only [f_formOf, if_neg c_1, if_pos c_6, if_pos c_7, if_pos c_8]) d_A_formOf_33
    refine lv_iload_n hx hb d_A_formOf_20 rfl (lv_at hl 0 rfl) ?_
    refine lv_bipush (v := (51 : Int32)) hx hb d_A_formOf_21 (by decide) ?_
    refine lv_icmp_le (tgt := 32) hx hb d_A_formOf_23 (by decide) (fun c_9 => ?_) (fun c_9 => ?_)
    · refine lv_iconst (v := (2 : Int32)) hx hb d_A_formOf_32 (by decide) ?_
      exact zl_i (u := ()) hx hb hr hlocks hS hP hD (by simp only [f_formOf, if_neg c_1, if_pos c_6, if_neg c_7, if_pos c_9]) d_A_formOf_33
    refine lv_iload_n hx hb d_A_formOf_26 rfl (lv_at hl 0 rfl) ?_
    refine lv_bipush (v := (57 : Int32)) hx hb d_A_formOf_27 (by decide) ?_
    refine lv_icmp_ne (tgt := 34) hx hb d_A_formOf_29 (by decide) (fun c_10 => ?_) (fun c_10 => ?_)
    · refine lv_iconst (v := (3 : Int32)) hx hb d_A_formOf_34 (by decide) ?_
      exact zl_i (u := ()) hx hb hr hlocks hS hP hD (by simp only [f_formOf, if_neg c_1, if_pos c_6, if_neg c_7, if_neg c_9, if_neg c_10]) d_A_formOf_35
    refine lv_iconst (v := (2 : Int32)) hx hb d_A_formOf_32 (by decide) ?_
    exact zl_i (u := ()) hx hb hr hlocks hS hP hD (by simp only [f_formOf, if_neg c_1, if_pos c_6, if_neg c_7, if_neg c_9, if_pos c_10]) d_A_formOf_33
  refine lv_iconst (v := (1 : Int32)) hx hb d_A_formOf_12 (by decide) ?_
  exact zl_i (u := ()) hx hb hr hlocks hS hP hD (by simp only [f_formOf, if_neg c_1, if_neg c_6]) d_A_formOf_13
theorem d_A_octetOf_0 : decode c_A_octetOf 0 = .ok (.lload_n 0, 1) := by decide +kernel
theorem d_A_octetOf_1 : decode c_A_octetOf 1 = .ok (.bipush 8, 2) := by decide +kernel
theorem d_A_octetOf_3 : decode c_A_octetOf 3 = .ok (.iload_n 2, 1) := by decide +kernel
theorem d_A_octetOf_4 : decode c_A_octetOf 4 = .ok (.imul, 1) := by decide +kernel
theorem d_A_octetOf_5 : decode c_A_octetOf 5 = .ok (.lushr, 1) := by decide +kernel
theorem d_A_octetOf_6 : decode c_A_octetOf 6 = .ok (.l2i, 1) := by decide +kernel
theorem d_A_octetOf_7 : decode c_A_octetOf 7 = .ok (.sipush 255, 3) := by decide +kernel
theorem d_A_octetOf_10 : decode c_A_octetOf 10 = .ok (.iand, 1) := by decide +kernel
theorem d_A_octetOf_11 : decode c_A_octetOf 11 = .ok (.ireturn, 1) := by decide +kernel
theorem kd_A_octetOf : (y_A_octetOf).cls = "WindowMachine$Assembler" ∧ (y_A_octetOf).cls ≠ "java/lang/invoke/MethodHandle" ∧ (y_A_octetOf).cls ≠ "java/lang/invoke/VarHandle" ∧ (parseMethodDescriptor (y_A_octetOf).desc).map (fun d => d.parameters.length) = some 2 := by decide +kernel
def f_octetOf (p0 : Int64) (p1 : Int32) : Int32 := ((zlushr p0 ((8 : Int32) * p1)).toInt32) &&& (255 : Int32)
set_option maxHeartbeats 4000000 in
set_option maxRecDepth 100000 in
theorem mt_A_octetOf (l : Launch) (D : va_G) (sz : Nat) (p0 : Int64) (p1 : Int32) : Met l y_A_octetOf w_A_octetOf ({ frames := 0, cells := 0, slots := 0, locals := 0 }) (va_Pc [.long p0, .int p1] (zw_pre D vwCl [] sz ([]) (fun _ => True))) (va_Qi (fun r (_ : Unit) => r = f_octetOf p0 p1) (fun u t => zw_at D vwCl (va_A ([]) sz) ((fun (_ : Unit) => []) u) t) (va_A ([]) sz)) 0 0 (va_A ([]) sz) := by
  refine zm (Qf := fun A => va_Qi (fun r (_ : Unit) => r = f_octetOf p0 p1) (fun u t => zw_at D vwCl A ((fun (_ : Unit) => []) u) t) A) (Zf := fun _ _ => True) (cc := c_A_octetOf) (nL := 3) (ret := (some .int)) (by decide) rfl (Nat.le_of_ble_eq_true rfl) ?_
  intro p e s m below meth c9 A H locs ls hx hb hml hown hts hr hlocks hA hK hP hD hS hZ hl
  have hl : lv_has ls 3 [(0, .long p0), (2, .int p1)] := hl
  have ht : ∀ w9 ∈ zT, w9.before _ s = true := fun w9 h9 => hts w9 (List.mem_cons_of_mem _ h9)
  refine lv_lload_n hx hb d_A_octetOf_0 rfl (lv_at hl 0 rfl) ?_
  refine lv_bipush (v := (8 : Int32)) hx hb d_A_octetOf_1 (by decide) ?_
  refine lv_iload_n hx hb d_A_octetOf_3 rfl (lv_at hl 1 rfl) ?_
  refine lv_imul hx hb d_A_octetOf_4 ?_
  refine lv_lushr (v := zlushr p0 ((8 : Int32) * p1)) hx hb d_A_octetOf_5 rfl ?_
  refine lv_l2i (v := (zlushr p0 ((8 : Int32) * p1)).toInt32) hx hb d_A_octetOf_6 rfl ?_
  refine lv_sipush (v := (255 : Int32)) hx hb d_A_octetOf_7 (by decide) ?_
  refine lv_iand hx hb d_A_octetOf_10 ?_
  exact zl_i (u := ()) hx hb hr hlocks hS hP hD (by simp only [f_octetOf]) d_A_octetOf_11
theorem d_A_lettersIn_0 : decode c_A_lettersIn 0 = .ok (.iconst 0, 1) := by decide +kernel
theorem d_A_lettersIn_1 : decode c_A_lettersIn 1 = .ok (.istore_n 2, 1) := by decide +kernel
theorem d_A_lettersIn_2 : decode c_A_lettersIn 2 = .ok (.iload_n 2, 1) := by decide +kernel
theorem d_A_lettersIn_3 : decode c_A_lettersIn 3 = .ok (.bipush 8, 2) := by decide +kernel
theorem d_A_lettersIn_5 : decode c_A_lettersIn 5 = .ok (.if_icmp .ge 37, 3) := by decide +kernel
theorem d_A_lettersIn_8 : decode c_A_lettersIn 8 = .ok (.lload_n 0, 1) := by decide +kernel
theorem d_A_lettersIn_9 : decode c_A_lettersIn 9 = .ok (.iload_n 2, 1) := by decide +kernel
theorem d_A_lettersIn_10 : decode c_A_lettersIn 10 = .ok (.invokestatic 19, 3) := by decide +kernel
theorem d_A_lettersIn_13 : decode c_A_lettersIn 13 = .ok (.ifCond .eq 29, 3) := by decide +kernel
theorem d_A_lettersIn_16 : decode c_A_lettersIn 16 = .ok (.lload_n 0, 1) := by decide +kernel
theorem d_A_lettersIn_17 : decode c_A_lettersIn 17 = .ok (.iload_n 2, 1) := by decide +kernel
theorem d_A_lettersIn_18 : decode c_A_lettersIn 18 = .ok (.invokestatic 19, 3) := by decide +kernel
theorem d_A_lettersIn_21 : decode c_A_lettersIn 21 = .ok (.istore_n 3, 1) := by decide +kernel
theorem d_A_lettersIn_22 : decode c_A_lettersIn 22 = .ok (.iload_n 3, 1) := by decide +kernel
theorem d_A_lettersIn_23 : decode c_A_lettersIn 23 = .ok (.bipush 32, 2) := by decide +kernel
theorem d_A_lettersIn_25 : decode c_A_lettersIn 25 = .ok (.if_icmp .lt 9, 3) := by decide +kernel
theorem d_A_lettersIn_28 : decode c_A_lettersIn 28 = .ok (.iload_n 3, 1) := by decide +kernel
theorem d_A_lettersIn_29 : decode c_A_lettersIn 29 = .ok (.bipush 126, 2) := by decide +kernel
theorem d_A_lettersIn_31 : decode c_A_lettersIn 31 = .ok (.if_icmp .le 5, 3) := by decide +kernel
theorem d_A_lettersIn_34 : decode c_A_lettersIn 34 = .ok (.iconst 0, 1) := by decide +kernel
theorem d_A_lettersIn_35 : decode c_A_lettersIn 35 = .ok (.ireturn, 1) := by decide +kernel
theorem d_A_lettersIn_36 : decode c_A_lettersIn 36 = .ok (.iinc 2 1, 3) := by decide +kernel
theorem d_A_lettersIn_39 : decode c_A_lettersIn 39 = .ok (.goto (-37), 3) := by decide +kernel
theorem d_A_lettersIn_42 : decode c_A_lettersIn 42 = .ok (.iload_n 2, 1) := by decide +kernel
theorem d_A_lettersIn_43 : decode c_A_lettersIn 43 = .ok (.ireturn, 1) := by decide +kernel
theorem kd_A_lettersIn : (y_A_lettersIn).cls = "WindowMachine$Assembler" ∧ (y_A_lettersIn).cls ≠ "java/lang/invoke/MethodHandle" ∧ (y_A_lettersIn).cls ≠ "java/lang/invoke/VarHandle" ∧ (parseMethodDescriptor (y_A_lettersIn).desc).map (fun d => d.parameters.length) = some 1 := by decide +kernel
def fl_A_lettersIn_2 (p0 : Int64) : Nat → Nat → Int32
  | 0, _ => 0
  | n9 + 1, i_1 => (if (8 : Int32) ≤ (nI i_1) then nI i_1 else (if (f_octetOf p0 (nI i_1)) = (0 : Int32) then nI i_1 else (if (f_octetOf p0 (nI i_1)) < (32 : Int32) then (0 : Int32) else (if (f_octetOf p0 (nI i_1)) ≤ (126 : Int32) then fl_A_lettersIn_2 p0 n9 (i_1 + 1) else (0 : Int32)))))
def f_lettersIn (p0 : Int64) : Int32 := fl_A_lettersIn_2 p0 9 0
set_option maxHeartbeats 4000000 in
set_option maxRecDepth 100000 in
theorem mt_A_lettersIn (l : Launch) (D : va_G) (sz : Nat) (p0 : Int64) : Met l y_A_lettersIn w_A_lettersIn ({ frames := 1, cells := 0, slots := 0, locals := 22 }) (va_Pc [.long p0] (zw_pre D vwCl [] sz ([]) (fun _ => True))) (va_Qi (fun r (_ : Unit) => r = f_lettersIn p0) (fun u t => zw_at D vwCl (va_A ([]) sz) ((fun (_ : Unit) => []) u) t) (va_A ([]) sz)) 0 0 (va_A ([]) sz) := by
  refine zm (Qf := fun A => va_Qi (fun r (_ : Unit) => r = f_lettersIn p0) (fun u t => zw_at D vwCl A ((fun (_ : Unit) => []) u) t) A) (Zf := fun _ _ => True) (cc := c_A_lettersIn) (nL := 4) (ret := (some .int)) (by decide) rfl (Nat.le_of_ble_eq_true rfl) ?_
  intro p e s m below meth c9 A H locs ls hx hb hml hown hts hr hlocks hA hK hP hD hS hZ hl
  have hl : lv_has ls 4 [(0, .long p0)] := hl
  have ht : ∀ w9 ∈ zT, w9.before _ s = true := fun w9 h9 => hts w9 (List.mem_cons_of_mem _ h9)
  refine lv_iconst (v := (0 : Int32)) hx hb d_A_lettersIn_0 (by decide) ?_
  refine lv_istore_n (lv' := [(2, .int (0 : Int32)), (0, .long p0)]) hx hb d_A_lettersIn_1 rfl hl (by decide) rfl (fun ls hl => ?_)
  refine zloop (X := Nat) (G := fun n9 v9 H locs ls => f_lettersIn p0 = fl_A_lettersIn_2 p0 n9 v9 ∧ (v9 + n9 = 9 ∧ v9 ≤ 8) ∧ va_P D vwCl ([]) H ∧ va_D A ([]) ∧ va_S A s.heap H locs ∧ lv_has ls 4 [(0, .long p0), (2, .int (nI v9))]) (fr := fun v9 ls => F0 m 2 ls []) (n := 9) (v := 0) (fun n9 ih v9 H locs ls hG => ?_) (fun v9 H locs ls hG => ?_) ⟨(by simp only [f_lettersIn]), (by decide), hP, hD, hS, (lv_sub hl [1, 0] rfl)⟩
  · obtain ⟨i_1, rfl⟩ : ∃ z, z = v9 := ⟨_, rfl⟩
    obtain ⟨hF_2, hI, hP, hD, hS, hl⟩ := hG
    refine lv_iload_n hx hb d_A_lettersIn_2 rfl (lv_at hl 1 rfl) ?_
    refine lv_bipush (v := (8 : Int32)) hx hb d_A_lettersIn_3 (by decide) ?_
    refine lv_icmp_ge (tgt := 42) hx hb d_A_lettersIn_5 (by decide) (fun c_3 => ?_) (fun c_3 => ?_)
    · refine lv_iload_n hx hb d_A_lettersIn_42 rfl (lv_at hl 1 rfl) ?_
      exact zl_i (u := ()) hx hb hr hlocks hS hP hD (by rw [hF_2]; simp only [fl_A_lettersIn_2, if_pos c_3]) d_A_lettersIn_43
    refine lv_lload_n hx hb d_A_lettersIn_8 rfl (lv_at hl 0 rfl) ?_
    refine lv_iload_n hx hb d_A_lettersIn_9 rfl (lv_at hl 1 rfl) ?_
    refine zc_i (w2 := fun _ => []) (va_runS (As := [.long p0, .int (nI i_1)]) (rest := []) ⟨hx, hb, hml, hown, ht⟩ (mt_A_octetOf l D H.size p0 (nI i_1)) (cwS 2 ht (zgS zw_200 zw_201 zw_3 zw_202) rfl rfl rfl kd_A_octetOf ⟨Nat.le_of_ble_eq_true rfl, Nat.le_of_ble_eq_true rfl⟩) ⟨zw_blind zw_tt, zw_go (hP.sub (ws' := []) [] rfl) (hD.sub (ws' := []) [] (by decide) rfl) (hK.sub (tys' := []) [] rfl) (fun _ _ _ => trivial)⟩ rfl rfl hl.1 rfl (lv_room (Nat.le_of_ble_eq_true rfl)) d_A_lettersIn_10 ⟨Nat.le_of_ble_eq_true rfl, Nat.le_of_ble_eq_true rfl⟩) hP hD hS hA [] [] [] rfl rfl (by decide) (by decide) (by decide) (fun _ => rfl) (fun r_4 _ H locs hw hP hD hS => ?_)
    subst hw
    refine lv_if_eq (tgt := 42) hx hb d_A_lettersIn_13 (by decide) (fun c_5 => ?_) (fun c_5 => ?_)
    · refine lv_iload_n hx hb d_A_lettersIn_42 rfl (lv_at hl 1 rfl) ?_
      exact zl_i (u := ()) hx hb hr hlocks hS hP hD (by rw [hF_2]; simp only [fl_A_lettersIn_2, if_neg c_3, if_pos c_5]) d_A_lettersIn_43
    refine lv_lload_n hx hb d_A_lettersIn_16 rfl (lv_at hl 0 rfl) ?_
    refine lv_iload_n hx hb d_A_lettersIn_17 rfl (lv_at hl 1 rfl) ?_
    refine zc_i (w2 := fun _ => []) (va_runS (As := [.long p0, .int (nI i_1)]) (rest := []) ⟨hx, hb, hml, hown, ht⟩ (mt_A_octetOf l D H.size p0 (nI i_1)) (cwS 2 ht (zgS zw_200 zw_201 zw_3 zw_202) rfl rfl rfl kd_A_octetOf ⟨Nat.le_of_ble_eq_true rfl, Nat.le_of_ble_eq_true rfl⟩) ⟨zw_blind zw_tt, zw_go (hP.sub (ws' := []) [] rfl) (hD.sub (ws' := []) [] (by decide) rfl) (hK.sub (tys' := []) [] rfl) (fun _ _ _ => trivial)⟩ rfl rfl hl.1 rfl (lv_room (Nat.le_of_ble_eq_true rfl)) d_A_lettersIn_18 ⟨Nat.le_of_ble_eq_true rfl, Nat.le_of_ble_eq_true rfl⟩) hP hD hS hA [] [] [] rfl rfl (by decide) (by decide) (by decide) (fun _ => rfl) (fun r_6 _ H locs hw hP hD hS => ?_)
    subst hw
    refine lv_istore_n (lv' := [(3, .int (f_octetOf p0 (nI i_1))), (0, .long p0), (2, .int (nI i_1))]) hx hb d_A_lettersIn_21 rfl hl (by decide) rfl (fun ls hl => ?_)
    refine lv_iload_n hx hb d_A_lettersIn_22 rfl (lv_at hl 0 rfl) ?_
    refine lv_bipush (v := (32 : Int32)) hx hb d_A_lettersIn_23 (by decide) ?_
    refine lv_icmp_lt (tgt := 34) hx hb d_A_lettersIn_25 (by decide) (fun c_7 => ?_) (fun c_7 => ?_)
    · refine lv_iconst (v := (0 : Int32)) hx hb d_A_lettersIn_34 (by decide) ?_
      exact zl_i (u := ()) hx hb hr hlocks hS hP hD (by rw [hF_2]; simp only [fl_A_lettersIn_2, if_neg c_3, if_neg c_5, if_pos c_7]) d_A_lettersIn_35
    refine lv_iload_n hx hb d_A_lettersIn_28 rfl (lv_at hl 0 rfl) ?_
    refine lv_bipush (v := (126 : Int32)) hx hb d_A_lettersIn_29 (by decide) ?_
    refine lv_icmp_le (tgt := 36) hx hb d_A_lettersIn_31 (by decide) (fun c_8 => ?_) (fun c_8 => ?_)
    · refine lv_iinc (v := (nI i_1) + (1 : Int32)) (lv' := [(2, .int ((nI i_1) + (1 : Int32))), (3, .int (f_octetOf p0 (nI i_1))), (0, .long p0)]) hx hb d_A_lettersIn_36 hl (k := 2) rfl rfl (by decide) rfl (fun ls hl => ?_)
      refine lv_goto (tgt := 2) hx hb d_A_lettersIn_39 (by decide) ?_
      rw [nI_1 i_1] at hl
      exact ih (i_1 + 1) _ _ _ ⟨by rw [hF_2]; simp only [fl_A_lettersIn_2, if_neg c_3, if_neg c_5, if_neg c_7, if_pos c_8], ⟨by omega, znlt (N := 8) (by omega) c_3⟩, hP, hD, hS, (lv_sub hl [2, 0] rfl)⟩
    refine lv_iconst (v := (0 : Int32)) hx hb d_A_lettersIn_34 (by decide) ?_
    exact zl_i (u := ()) hx hb hr hlocks hS hP hD (by rw [hF_2]; simp only [fl_A_lettersIn_2, if_neg c_3, if_neg c_5, if_neg c_7, if_neg c_8]) d_A_lettersIn_35
  · obtain ⟨i_1, rfl⟩ : ∃ z, z = v9 := ⟨_, rfl⟩
    obtain ⟨-, hI, -⟩ := hG
    exact (by omega)
