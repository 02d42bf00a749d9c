def okA (st : SA) : Prop := 0 ≤ (st.1 1).toInt ∧ (st.1 1).toInt ≤ (st.1 0).toInt ∧ (st.1 0).toInt ≤ 40
theorem nle_toInt {a b : Int32} (c : ¬ a ≤ b) : b.toInt < a.toInt := Int.not_le.mp (fun q => c (Int32.le_iff_toInt_le.mpr q))
theorem at_in {st : SA} (h : okA st) (c : ¬ (st.1 0) ≤ (st.1 1)) : vp_in (st.1 1) 40 := by
  have q := nle_toInt c
  obtain ⟨h1, h2, h3⟩ := h
  exact vp_in_iff.mpr ⟨h1, by omega⟩
theorem inc_toInt {x : Int32} (h0 : -1000 ≤ x.toInt) (h1 : x.toInt ≤ 1000) : (x + (1 : Int32)).toInt = x.toInt + 1 := by
  have e : (1 : Int32).toInt = 1 := by decide
  rw [Int32.toInt_add, e, Int.bmod_eq_of_le (by omega) (by omega)]
theorem ok_at {st : SA} (h : okA st) (c : ¬ (st.1 0) ≤ (st.1 1)) : okA (upd st.1 1 ((st.1 1) + (1 : Int32)), st.2) := by
  have q := nle_toInt c
  obtain ⟨h1, h2, h3⟩ := h
  have e := inc_toInt (x := st.1 1) (by omega) (by omega)
  show 0 ≤ ((st.1 1) + (1 : Int32)).toInt ∧ ((st.1 1) + (1 : Int32)).toInt ≤ (st.1 0).toInt ∧ (st.1 0).toInt ≤ 40
  omega
theorem at_back {u : SA} {n : Nat} {k : Int} (h : okA u ∧ (u.1 1).toInt + ((n + 1 : Nat) : Int) = k) (c : ¬ (u.1 0) ≤ (u.1 1)) : ((u.1 1) + (1 : Int32)).toInt + (n : Int) = k := by
  have q := nle_toInt c
  obtain ⟨⟨h1, h2, h3⟩, h4⟩ := h
  have e := inc_toInt (x := u.1 1) (by omega) (by omega)
  omega
theorem neg_at {x g a b q r : Int32} (e : x = (if g = (0 : Int32) then (0 : Int32) else (if a ≤ b then (0 : Int32) else (if q = r then (1 : Int32) else (0 : Int32))))) (c : ¬ x = (0 : Int32)) : ¬ a ≤ b := by
  intro h
  rw [e] at c
  simp [h] at c
theorem okA_ite {c : Prop} {d : Decidable c} {a b : SA} (ha : okA a) (hb : okA b) : okA (@ite _ c d a b) := by
  by_cases h : c
  · rw [if_pos h]; exact ha
  · rw [if_neg h]; exact hb
theorem okA_ite2 {c : Prop} {d : Decidable c} {a b : Int32 × SA} (ha : okA a.2) (hb : okA b.2) : okA (@ite _ c d a b).2 := by
  by_cases h : c
  · rw [if_pos h]; exact ha
  · rw [if_neg h]; exact hb
theorem d_A_isGood_0 : decode c_A_isGood 0 = .ok (.aload_n 0, 1) := by decide +kernel
theorem d_A_isGood_1 : decode c_A_isGood 1 = .ok (.getfield 15, 3) := by decide +kernel
theorem d_A_isGood_4 : decode c_A_isGood 4 = .ok (.iconst (-1), 1) := by decide +kernel
theorem d_A_isGood_5 : decode c_A_isGood 5 = .ok (.if_icmp .ne 7, 3) := by decide +kernel
theorem d_A_isGood_8 : decode c_A_isGood 8 = .ok (.iconst 1, 1) := by decide +kernel
theorem d_A_isGood_9 : decode c_A_isGood 9 = .ok (.goto 4, 3) := by decide +kernel
theorem d_A_isGood_12 : decode c_A_isGood 12 = .ok (.iconst 0, 1) := by decide +kernel
theorem d_A_isGood_13 : decode c_A_isGood 13 = .ok (.ireturn, 1) := by decide +kernel
theorem kd_A_isGood : (y_A_isGood).cls = "WindowMachine$Assembler" ∧ (y_A_isGood).cls ≠ "java/lang/invoke/MethodHandle" ∧ (y_A_isGood).cls ≠ "java/lang/invoke/VarHandle" ∧ (parseMethodDescriptor (y_A_isGood).desc).map (fun d => d.parameters.length) = some 0 := by decide +kernel
def f_isGood (st : SA) : Int32 := (let x_1 := (if (st.1 2) = (-1 : Int32) then (1 : Int32) else (0 : Int32)); x_1)
set_option maxHeartbeats 4000000 in
set_option maxRecDepth 100000 in
theorem mt_A_isGood (l : Launch) (D : va_G) (a b : Nat) (k : ClassId) (sz : Nat) (st : SA) : Met l y_A_isGood w_A_isGood ({ frames := 0, cells := 0, slots := 0, locals := 0 }) (va_Pc [.ref a] (zw_pre D vwCl [(k, .char)] sz (wA a b k st) (fun _ => True))) (va_Qi (fun r (_ : Unit) => r = f_isGood st) (fun u t => zw_at D vwCl (va_A (wA a b k st) sz) ((fun (_ : Unit) => wA a b k st) u) t) (va_A (wA a b k st) sz)) 0 0 (va_A (wA a b k st) sz) := by
  refine zm (Qf := fun A => va_Qi (fun r (_ : Unit) => r = f_isGood st) (fun u t => zw_at D vwCl A ((fun (_ : Unit) => wA a b k st) u) t) A) (Zf := fun _ _ => True) (cc := c_A_isGood) (nL := 1) (ret := (some .boolean)) (by decide) rfl (Nat.le_of_ble_eq_true rfl) ?_
  intro p e s m below meth c9 A H locs ls hx hb hml hown hts hr hlocks hA hK hP hD hS hZ hl
  have hl : lv_has ls 1 [(0, .ref a)] := hl
  have ht : ∀ w9 ∈ zT, w9.before _ s = true := fun w9 h9 => hts w9 (List.mem_cons_of_mem _ h9)
  refine lv_aload_n hx hb d_A_isGood_0 rfl (lv_at hl 0 rfl) ?_
  refine va_get (D := D) (ci := 0) (v := .int (st.1 2)) (C := "WindowMachine$Assembler") (T := T_A) (N := 5) hx hb ht zi_A hown hK hP 0 rfl rfl 3 (by decide) (ht _ zw_48) (fun _ h9 => h9) rfl d_A_isGood_1 ?_
  refine lv_iconst (v := (-1 : Int32)) hx hb d_A_isGood_4 (by decide) ?_
  refine zcut (X := Int32) (G := fun v9 H locs ls => v9 = (if (st.1 2) = (-1 : Int32) then (1 : Int32) else (0 : Int32)) ∧ va_P D vwCl (wA a b k st) H ∧ va_D A (wA a b k st) ∧ va_S A s.heap H locs ∧ lv_has ls 1 [(0, .ref a)]) (fr := fun v9 ls => F0 m 13 ls [.int v9]) (fun J_2 => ?_) (fun v9 H locs ls hG => ?_)
  · refine lv_icmp_ne (tgt := 12) hx hb d_A_isGood_5 (by decide) (fun c_3 => ?_) (fun c_3 => ?_)
    · refine lv_iconst (v := (0 : Int32)) hx hb d_A_isGood_12 (by decide) ?_
      exact J_2 (0 : Int32) _ _ _ ⟨by simp only [if_neg c_3], hP, hD, hS, hl⟩
    refine lv_iconst (v := (1 : Int32)) hx hb d_A_isGood_8 (by decide) ?_
    refine lv_goto (tgt := 13) hx hb d_A_isGood_9 (by decide) ?_
    exact J_2 (1 : Int32) _ _ _ ⟨by simp only [if_pos c_3], hP, hD, hS, hl⟩
  obtain ⟨x_1, rfl⟩ : ∃ z, z = v9 := ⟨_, rfl⟩
  obtain ⟨ex_1, hP, hD, hS, hl⟩ := hG
  have zbx_1 : zB x_1 := by rw [ex_1]; repeat' first | exact zB0 | exact zB1 | assumption | apply zB_ite
  exact zl_z (u := ()) hx hb hr (zbx_1).n hlocks hS hP hD (by simp only [f_isGood, ← ex_1]) d_A_isGood_13
theorem d_A_hasRoomFor_0 : decode c_A_hasRoomFor 0 = .ok (.aload_n 0, 1) := by decide +kernel
theorem d_A_hasRoomFor_1 : decode c_A_hasRoomFor 1 = .ok (.getfield 23, 3) := by decide +kernel
theorem d_A_hasRoomFor_4 : decode c_A_hasRoomFor 4 = .ok (.iload_n 1, 1) := by decide +kernel
theorem d_A_hasRoomFor_5 : decode c_A_hasRoomFor 5 = .ok (.iadd, 1) := by decide +kernel
theorem d_A_hasRoomFor_6 : decode c_A_hasRoomFor 6 = .ok (.bipush 40, 2) := by decide +kernel
theorem d_A_hasRoomFor_8 : decode c_A_hasRoomFor 8 = .ok (.if_icmp .gt 7, 3) := by decide +kernel
theorem d_A_hasRoomFor_11 : decode c_A_hasRoomFor 11 = .ok (.iconst 1, 1) := by decide +kernel
theorem d_A_hasRoomFor_12 : decode c_A_hasRoomFor 12 = .ok (.goto 4, 3) := by decide +kernel
theorem d_A_hasRoomFor_15 : decode c_A_hasRoomFor 15 = .ok (.iconst 0, 1) := by decide +kernel
theorem d_A_hasRoomFor_16 : decode c_A_hasRoomFor 16 = .ok (.ireturn, 1) := by decide +kernel
theorem kd_A_hasRoomFor : (y_A_hasRoomFor).cls = "WindowMachine$Assembler" ∧ (y_A_hasRoomFor).cls ≠ "java/lang/invoke/MethodHandle" ∧ (y_A_hasRoomFor).cls ≠ "java/lang/invoke/VarHandle" ∧ (parseMethodDescriptor (y_A_hasRoomFor).desc).map (fun d => d.parameters.length) = some 1 := by decide +kernel
def f_hasRoomFor (st : SA) (p0 : Int32) : Int32 := (let x_1 := (if (40 : Int32) < ((st.1 0) + p0) then (0 : Int32) else (1 : Int32)); x_1)
set_option maxHeartbeats 4000000 in
set_option maxRecDepth 100000 in
theorem mt_A_hasRoomFor (l : Launch) (D : va_G) (a b : Nat) (k : ClassId) (sz : Nat) (st : SA) (p0 : Int32) : Met l y_A_hasRoomFor w_A_hasRoomFor ({ frames := 0, cells := 0, slots := 0, locals := 0 }) (va_Pc [.ref a, .int p0] (zw_pre D vwCl [(k, .char)] sz (wA a b k st) (fun _ => True))) (va_Qi (fun r (_ : Unit) => r = f_hasRoomFor st p0) (fun u t => zw_at D vwCl (va_A (wA a b k st) sz) ((fun (_ : Unit) => wA a b k st) u) t) (va_A (wA a b k st) sz)) 0 0 (va_A (wA a b k st) sz) := by
  refine zm (Qf := fun A => va_Qi (fun r (_ : Unit) => r = f_hasRoomFor st p0) (fun u t => zw_at D vwCl A ((fun (_ : Unit) => wA a b k st) u) t) A) (Zf := fun _ _ => True) (cc := c_A_hasRoomFor) (nL := 2) (ret := (some .boolean)) (by decide) rfl (Nat.le_of_ble_eq_true rfl) ?_
  intro p e s m below meth c9 A H locs ls hx hb hml hown hts hr hlocks hA hK hP hD hS hZ hl
  have hl : lv_has ls 2 [(0, .ref a), (1, .int p0)] := hl
  have ht : ∀ w9 ∈ zT, w9.before _ s = true := fun w9 h9 => hts w9 (List.mem_cons_of_mem _ h9)
  refine lv_aload_n hx hb d_A_hasRoomFor_0 rfl (lv_at hl 0 rfl) ?_
  refine va_get (D := D) (ci := 0) (v := .int (st.1 0)) (C := "WindowMachine$Assembler") (T := T_A) (N := 5) hx hb ht zi_A hown hK hP 0 rfl rfl 1 (by decide) (ht _ zw_46) (fun _ h9 => h9) rfl d_A_hasRoomFor_1 ?_
  refine lv_iload_n hx hb d_A_hasRoomFor_4 rfl (lv_at hl 1 rfl) ?_
  refine lv_iadd hx hb d_A_hasRoomFor_5 ?_
  refine lv_bipush (v := (40 : Int32)) hx hb d_A_hasRoomFor_6 (by decide) ?_
  refine zcut (X := Int32) (G := fun v9 H locs ls => v9 = (if (40 : Int32) < ((st.1 0) + p0) then (0 : Int32) else (1 : Int32)) ∧ va_P D vwCl (wA a b k st) H ∧ va_D A (wA a b k st) ∧ va_S A s.heap H locs ∧ lv_has ls 2 [(0, .ref a), (1, .int p0)]) (fr := fun v9 ls => F0 m 16 ls [.int v9]) (fun J_2 => ?_) (fun v9 H locs ls hG => ?_)
  · refine lv_icmp_gt (tgt := 15) hx hb d_A_hasRoomFor_8 (by decide) (fun c_3 => ?_) (fun c_3 => ?_)
    · refine lv_iconst (v := (0 : Int32)) hx hb d_A_hasRoomFor_15 (by decide) ?_
      exact J_2 (0 : Int32) _ _ _ ⟨by simp only [if_pos c_3], hP, hD, hS, hl⟩
    refine lv_iconst (v := (1 : Int32)) hx hb d_A_hasRoomFor_11 (by decide) ?_
    refine lv_goto (tgt := 16) hx hb d_A_hasRoomFor_12 (by decide) ?_
    exact J_2 (1 : Int32) _ _ _ ⟨by simp only [if_neg c_3], hP, hD, hS, hl⟩
  obtain ⟨x_1, rfl⟩ : ∃ z, z = v9 := ⟨_, rfl⟩
  obtain ⟨ex_1, hP, hD, hS, hl⟩ := hG
  have zbx_1 : zB x_1 := by rw [ex_1]; repeat' first | exact zB0 | exact zB1 | assumption | apply zB_ite
  exact zl_z (u := ()) hx hb hr (zbx_1).n hlocks hS hP hD (by simp only [f_hasRoomFor, ← ex_1]) d_A_hasRoomFor_16
theorem d_A_expect_0 : decode c_A_expect 0 = .ok (.aload_n 0, 1) := by decide +kernel
theorem d_A_expect_1 : decode c_A_expect 1 = .ok (.invokevirtual 36, 3) := by decide +kernel
theorem d_A_expect_4 : decode c_A_expect 4 = .ok (.ifCond .ne 4, 3) := by decide +kernel
theorem d_A_expect_7 : decode c_A_expect 7 = .ok (.return_, 1) := by decide +kernel
theorem d_A_expect_8 : decode c_A_expect 8 = .ok (.aload_n 0, 1) := by decide +kernel
theorem d_A_expect_9 : decode c_A_expect 9 = .ok (.getfield 26, 3) := by decide +kernel
theorem d_A_expect_12 : decode c_A_expect 12 = .ok (.aload_n 0, 1) := by decide +kernel
theorem d_A_expect_13 : decode c_A_expect 13 = .ok (.getfield 23, 3) := by decide +kernel
theorem d_A_expect_16 : decode c_A_expect 16 = .ok (.if_icmp .ge 29, 3) := by decide +kernel
theorem d_A_expect_19 : decode c_A_expect 19 = .ok (.aload_n 0, 1) := by decide +kernel
theorem d_A_expect_20 : decode c_A_expect 20 = .ok (.getfield 11, 3) := by decide +kernel
theorem d_A_expect_23 : decode c_A_expect 23 = .ok (.aload_n 0, 1) := by decide +kernel
theorem d_A_expect_24 : decode c_A_expect 24 = .ok (.getfield 26, 3) := by decide +kernel
theorem d_A_expect_27 : decode c_A_expect 27 = .ok (.caload, 1) := by decide +kernel
theorem d_A_expect_28 : decode c_A_expect 28 = .ok (.iload_n 1, 1) := by decide +kernel
theorem d_A_expect_29 : decode c_A_expect 29 = .ok (.if_icmp .ne 16, 3) := by decide +kernel
theorem d_A_expect_32 : decode c_A_expect 32 = .ok (.aload_n 0, 1) := by decide +kernel
theorem d_A_expect_33 : decode c_A_expect 33 = .ok (.dup, 1) := by decide +kernel
theorem d_A_expect_34 : decode c_A_expect 34 = .ok (.getfield 26, 3) := by decide +kernel
theorem d_A_expect_37 : decode c_A_expect 37 = .ok (.iconst 1, 1) := by decide +kernel
theorem d_A_expect_38 : decode c_A_expect 38 = .ok (.iadd, 1) := by decide +kernel
theorem d_A_expect_39 : decode c_A_expect 39 = .ok (.putfield 26, 3) := by decide +kernel
theorem d_A_expect_42 : decode c_A_expect 42 = .ok (.goto 11, 3) := by decide +kernel
theorem d_A_expect_45 : decode c_A_expect 45 = .ok (.aload_n 0, 1) := by decide +kernel
theorem d_A_expect_46 : decode c_A_expect 46 = .ok (.aload_n 0, 1) := by decide +kernel
theorem d_A_expect_47 : decode c_A_expect 47 = .ok (.getfield 26, 3) := by decide +kernel
theorem d_A_expect_50 : decode c_A_expect 50 = .ok (.putfield 15, 3) := by decide +kernel
theorem d_A_expect_53 : decode c_A_expect 53 = .ok (.return_, 1) := by decide +kernel
theorem kd_A_expect : (y_A_expect).cls = "WindowMachine$Assembler" ∧ (y_A_expect).cls ≠ "java/lang/invoke/MethodHandle" ∧ (y_A_expect).cls ≠ "java/lang/invoke/VarHandle" ∧ (parseMethodDescriptor (y_A_expect).desc).map (fun d => d.parameters.length) = some 1 := by decide +kernel
def f_expect (st : SA) (p0 : Int32) : SA := (if (f_isGood st) = (0 : Int32) then st else (let u_3 := (if (st.1 0) ≤ (st.1 1) then (upd st.1 2 (st.1 1), st.2) else (if (st.2 (st.1 1).toNatClampNeg) = p0 then (upd st.1 1 ((st.1 1) + (1 : Int32)), st.2) else (upd st.1 2 (st.1 1), st.2))); u_3))
set_option maxHeartbeats 4000000 in
set_option maxRecDepth 100000 in
theorem mt_A_expect (l : Launch) (D : va_G) (a b : Nat) (k : ClassId) (sz : Nat) (st : SA) (p0 : Int32) (hA9 : okA st) : Met l y_A_expect w_A_expect ({ frames := 1, cells := 0, slots := 0, locals := 20 }) (va_Pc [.ref a, .int p0] (zw_pre D vwCl [(k, .char)] sz (wA a b k st) (fun _ => True))) (va_Qv (fun (u : SA) => u = f_expect st p0) (fun u t => zw_at D vwCl (va_A (wA a b k st) sz) ((fun (u : SA) => wA a b k u) u) t) (va_A (wA a b k st) sz)) 0 0 (va_A (wA a b k st) sz) := by
  refine zm (Qf := fun A => va_Qv (fun (u : SA) => u = f_expect st p0) (fun u t => zw_at D vwCl A ((fun (u : SA) => wA a b k u) u) t) A) (Zf := fun _ _ => True) (cc := c_A_expect) (nL := 2) (ret := none) (by decide) rfl (Nat.le_of_ble_eq_true rfl) ?_
  intro p e s m below meth c9 A H locs ls hx hb hml hown hts hr hlocks hA hK hP hD hS hZ hl
  have hl : lv_has ls 2 [(0, .ref a), (1, .int p0)] := hl
  have ht : ∀ w9 ∈ zT, w9.before _ s = true := fun w9 h9 => hts w9 (List.mem_cons_of_mem _ h9)
  refine lv_aload_n hx hb d_A_expect_0 rfl (lv_at hl 0 rfl) ?_
  refine zc_i (w2 := fun _ => wA a b k st) (va_runV (As := []) (rest := []) ⟨hx, hb, hml, hown, ht⟩ (mt_A_isGood l D a b k H.size st) (cwV 0 ht (zgV zw_408 zw_410 zs_11 zw_3 zw_411) rfl rfl rfl kd_A_isGood ⟨Nat.le_of_ble_eq_true rfl, Nat.le_of_ble_eq_true rfl⟩) ⟨zw_blind zw_tt, va_recv (hK.sub (tys' := [(k, .char)]) [0] rfl) (hP.sub (ws' := wA a b k st) [0, 1] rfl) (ci := 0) (q0 := 0) rfl rfl, zw_go (hP.sub (ws' := wA a b k st) [0, 1] rfl) (hD.sub (ws' := wA a b k st) [0, 1] (by decide) rfl) (hK.sub (tys' := [(k, .char)]) [0] rfl) (fun _ _ _ => trivial)⟩ rfl rfl hl.1 rfl (lv_room (Nat.le_of_ble_eq_true rfl)) d_A_expect_1 ⟨Nat.le_of_ble_eq_true rfl, Nat.le_of_ble_eq_true rfl⟩) hP hD hS hA [0, 1] [] [0, 1] rfl rfl (by decide) (by decide) (by decide) (fun _ => rfl) (fun r_1 _ H locs hw hP hD hS => ?_)
  subst hw
  refine lv_if_ne (tgt := 8) hx hb d_A_expect_4 (by decide) (fun c_2 => ?_) (fun c_2 => ?_)
  · refine lv_aload_n hx hb d_A_expect_8 rfl (lv_at hl 0 rfl) ?_
    refine va_get (D := D) (ci := 0) (v := .int (st.1 1)) (C := "WindowMachine$Assembler") (T := T_A) (N := 5) hx hb ht zi_A hown hK hP 0 rfl rfl 2 (by decide) (ht _ zw_47) (fun _ h9 => h9) rfl d_A_expect_9 ?_
    refine lv_aload_n hx hb d_A_expect_12 rfl (lv_at hl 0 rfl) ?_
    refine va_get (D := D) (ci := 0) (v := .int (st.1 0)) (C := "WindowMachine$Assembler") (T := T_A) (N := 5) hx hb ht zi_A hown hK hP 0 rfl rfl 1 (by decide) (ht _ zw_46) (fun _ h9 => h9) rfl d_A_expect_13 ?_
    refine zcut (X := SA) (G := fun v9 H locs ls => v9 = (if (st.1 0) ≤ (st.1 1) then (upd st.1 2 (st.1 1), st.2) else (if (st.2 (st.1 1).toNatClampNeg) = p0 then (upd st.1 1 ((st.1 1) + (1 : Int32)), st.2) else (upd st.1 2 (st.1 1), st.2))) ∧ va_P D vwCl (wA a b k v9) H ∧ va_D A (wA a b k v9) ∧ va_S A s.heap H locs ∧ lv_has ls 2 [(0, .ref a), (1, .int p0)]) (fr := fun v9 ls => F0 m 53 ls []) (fun J_4 => ?_) (fun v9 H locs ls hG => ?_)
    · refine lv_icmp_ge (tgt := 45) hx hb d_A_expect_16 (by decide) (fun c_5 => ?_) (fun c_5 => ?_)
      · refine lv_aload_n hx hb d_A_expect_45 rfl (lv_at hl 0 rfl) ?_
        refine lv_aload_n hx hb d_A_expect_46 rfl (lv_at hl 0 rfl) ?_
        refine va_get (D := D) (ci := 0) (v := .int (st.1 1)) (C := "WindowMachine$Assembler") (T := T_A) (N := 5) hx hb ht zi_A hown hK hP 0 rfl rfl 2 (by decide) (ht _ zw_47) (fun _ h9 => h9) rfl d_A_expect_47 ?_
        refine va_put (D := D) (ci := 0) (v := .int (st.1 1)) (ty := .int) (C := "WindowMachine$Assembler") (T := T_A) (N := 5) hx hb ht zi_A ty_A tyok_A nm_A hown hK hP hD hS 0 rfl rfl 3 (by decide) (ht _ zw_48) (fun _ h9 => h9) rfl (by decide +kernel) rfl rfl (Nat.le_of_ble_eq_true rfl) d_A_expect_50 (fun H locs hP hD hS => ?_)
        have hP : va_P D vwCl (wA a b k (upd st.1 2 (st.1 1), st.2)) H := hP
        have hD : va_D A (wA a b k (upd st.1 2 (st.1 1), st.2)) := hD
        exact J_4 (upd st.1 2 (st.1 1), st.2) _ _ _ ⟨by simp only [if_pos c_5], hP, hD, hS, hl⟩
      refine lv_aload_n hx hb d_A_expect_19 rfl (lv_at hl 0 rfl) ?_
      refine va_get (D := D) (ci := 0) (v := .ref b) (C := "WindowMachine$Assembler") (T := T_A) (N := 5) hx hb ht zi_A hown hK hP 0 rfl rfl 0 (by decide) (ht _ zw_44) (fun _ h9 => h9) rfl d_A_expect_20 ?_
      refine lv_aload_n hx hb d_A_expect_23 rfl (lv_at hl 0 rfl) ?_
      refine va_get (D := D) (ci := 0) (v := .int (st.1 1)) (C := "WindowMachine$Assembler") (T := T_A) (N := 5) hx hb ht zi_A hown hK hP 0 rfl rfl 2 (by decide) (ht _ zw_47) (fun _ h9 => h9) rfl d_A_expect_24 ?_
      refine va_cald hx hb hK hP 1 0 rfl rfl (at_in hA9 c_5) d_A_expect_27 ?_
      refine lv_iload_n hx hb d_A_expect_28 rfl (lv_at hl 1 rfl) ?_
      refine lv_icmp_ne (tgt := 45) hx hb d_A_expect_29 (by decide) (fun c_6 => ?_) (fun c_6 => ?_)
      · refine lv_aload_n hx hb d_A_expect_45 rfl (lv_at hl 0 rfl) ?_
        refine lv_aload_n hx hb d_A_expect_46 rfl (lv_at hl 0 rfl) ?_
        refine va_get (D := D) (ci := 0) (v := .int (st.1 1)) (C := "WindowMachine$Assembler") (T := T_A) (N := 5) hx hb ht zi_A hown hK hP 0 rfl rfl 2 (by decide) (ht _ zw_47) (fun _ h9 => h9) rfl d_A_expect_47 ?_
        refine va_put (D := D) (ci := 0) (v := .int (st.1 1)) (ty := .int) (C := "WindowMachine$Assembler") (T := T_A) (N := 5) hx hb ht zi_A ty_A tyok_A nm_A hown hK hP hD hS 0 rfl rfl 3 (by decide) (ht _ zw_48) (fun _ h9 => h9) rfl (by decide +kernel) rfl rfl (Nat.le_of_ble_eq_true rfl) d_A_expect_50 (fun H locs hP hD hS => ?_)
        have hP : va_P D vwCl (wA a b k (upd st.1 2 (st.1 1), st.2)) H := hP
        have hD : va_D A (wA a b k (upd st.1 2 (st.1 1), st.2)) := hD
        exact J_4 (upd st.1 2 (st.1 1), st.2) _ _ _ ⟨by simp only [if_neg c_5, if_neg c_6], hP, hD, hS, hl⟩
      refine lv_aload_n hx hb d_A_expect_32 rfl (lv_at hl 0 rfl) ?_
      refine lv_dup hx hb d_A_expect_33 rfl ?_
      refine va_get (D := D) (ci := 0) (v := .int (st.1 1)) (C := "WindowMachine$Assembler") (T := T_A) (N := 5) hx hb ht zi_A hown hK hP 0 rfl rfl 2 (by decide) (ht _ zw_47) (fun _ h9 => h9) rfl d_A_expect_34 ?_
      refine lv_iconst (v := (1 : Int32)) hx hb d_A_expect_37 (by decide) ?_
      refine lv_iadd hx hb d_A_expect_38 ?_
      refine va_put (D := D) (ci := 0) (v := .int ((st.1 1) + (1 : Int32))) (ty := .int) (C := "WindowMachine$Assembler") (T := T_A) (N := 5) hx hb ht zi_A ty_A tyok_A nm_A hown hK hP hD hS 0 rfl rfl 2 (by decide) (ht _ zw_47) (fun _ h9 => h9) rfl (by decide +kernel) rfl rfl (Nat.le_of_ble_eq_true rfl) d_A_expect_39 (fun H locs hP hD hS => ?_)
      have hP : va_P D vwCl (wA a b k (upd st.1 1 ((st.1 1) + (1 : Int32)), st.2)) H := hP
      have hD : va_D A (wA a b k (upd st.1 1 ((st.1 1) + (1 : Int32)), st.2)) := hD
      refine lv_goto (tgt := 53) hx hb d_A_expect_42 (by decide) ?_
      exact J_4 (upd st.1 1 ((st.1 1) + (1 : Int32)), st.2) _ _ _ ⟨by simp only [if_neg c_5, if_pos c_6], hP, hD, hS, hl⟩
    obtain ⟨u_3, rfl⟩ : ∃ z, z = v9 := ⟨_, rfl⟩
    obtain ⟨eu_3, hP, hD, hS, hl⟩ := hG
    have ok_3 : okA u_3 := by rw [eu_3]; (repeat' split) <;> first | exact hA9 | exact (ok_at hA9 ‹_›)
    exact zl_v (u := u_3) hx hb hr hlocks hS hP hD (by simp only [f_expect, ← eu_3, if_neg c_2]) d_A_expect_53
  exact zl_v (u := st) hx hb hr hlocks hS hP hD (by simp only [f_expect, if_pos c_2]) d_A_expect_7
theorem ok_expect {st : SA} {p : Int32} (h : okA st) : okA (f_expect st p) := by
  unfold f_expect
  dsimp only
  split
  · exact h
  · split
    · exact h
    · split
      · exact ok_at h ‹_›
      · exact h
theorem d_A_behind_0 : decode c_A_behind 0 = .ok (.aload_n 0, 1) := by decide +kernel
theorem d_A_behind_1 : decode c_A_behind 1 = .ok (.bipush 44, 2) := by decide +kernel
theorem d_A_behind_3 : decode c_A_behind 3 = .ok (.invokevirtual 102, 3) := by decide +kernel
theorem d_A_behind_6 : decode c_A_behind 6 = .ok (.iload_n 1, 1) := by decide +kernel
theorem d_A_behind_7 : decode c_A_behind 7 = .ok (.ireturn, 1) := by decide +kernel
theorem kd_A_behind : (y_A_behind).cls = "WindowMachine$Assembler" ∧ (y_A_behind).cls ≠ "java/lang/invoke/MethodHandle" ∧ (y_A_behind).cls ≠ "java/lang/invoke/VarHandle" ∧ (parseMethodDescriptor (y_A_behind).desc).map (fun d => d.parameters.length) = some 1 := by decide +kernel
def f_behind (st : SA) (p0 : Int32) : Int32 × SA := (let u_1 := f_expect st (44 : Int32); (p0, u_1))
set_option maxHeartbeats 4000000 in
set_option maxRecDepth 100000 in
theorem mt_A_behind (l : Launch) (D : va_G) (a b : Nat) (k : ClassId) (sz : Nat) (st : SA) (p0 : Int32) (hA9 : okA st) : Met l y_A_behind w_A_behind ({ frames := 2, cells := 0, slots := 0, locals := 41 }) (va_Pc [.ref a, .int p0] (zw_pre D vwCl [(k, .char)] sz (wA a b k st) (fun _ => True))) (va_Qi (fun r (u : SA) => r = (f_behind st p0).1 ∧ u = (f_behind st p0).2) (fun u t => zw_at D vwCl (va_A (wA a b k st) sz) ((fun (u : SA) => wA a b k u) u) t) (va_A (wA a b k st) sz)) 0 0 (va_A (wA a b k st) sz) := by
  refine zm (Qf := fun A => va_Qi (fun r (u : SA) => r = (f_behind st p0).1 ∧ u = (f_behind st p0).2) (fun u t => zw_at D vwCl A ((fun (u : SA) => wA a b k u) u) t) A) (Zf := fun _ _ => True) (cc := c_A_behind) (nL := 2) (ret := (some .int)) (by decide) rfl (Nat.le_of_ble_eq_true rfl) ?_
  intro p e s m below meth c9 A H locs ls hx hb hml hown hts hr hlocks hA hK hP hD hS hZ hl
  have hl : lv_has ls 2 [(0, .ref a), (1, .int p0)] := hl
  have ht : ∀ w9 ∈ zT, w9.before _ s = true := fun w9 h9 => hts w9 (List.mem_cons_of_mem _ h9)
  refine lv_aload_n hx hb d_A_behind_0 rfl (lv_at hl 0 rfl) ?_
  refine lv_bipush (v := (44 : Int32)) hx hb d_A_behind_1 (by decide) ?_
  refine zc_v (w2 := fun u9 => wA a b k u9) (va_runV (As := [.int (44 : Int32)]) (rest := []) ⟨hx, hb, hml, hown, ht⟩ (mt_A_expect l D a b k H.size st (44 : Int32) hA9) (cwV 1 ht (zgV zw_404 zw_406 zs_10 zw_3 zw_407) rfl rfl rfl kd_A_expect ⟨Nat.le_of_ble_eq_true rfl, Nat.le_of_ble_eq_true rfl⟩) ⟨zw_blind zw_tt, va_recv (hK.sub (tys' := [(k, .char)]) [0] rfl) (hP.sub (ws' := wA a b k st) [0, 1] rfl) (ci := 0) (q0 := 0) rfl rfl, zw_go (hP.sub (ws' := wA a b k st) [0, 1] rfl) (hD.sub (ws' := wA a b k st) [0, 1] (by decide) rfl) (hK.sub (tys' := [(k, .char)]) [0] rfl) (fun _ _ _ => trivial)⟩ rfl rfl hl.1 rfl (lv_room (Nat.le_of_ble_eq_true rfl)) d_A_behind_3 ⟨Nat.le_of_ble_eq_true rfl, Nat.le_of_ble_eq_true rfl⟩) hP hD hS hA [0, 1] [] [0, 1] rfl rfl (by decide) (by decide) (by decide) (fun _ => rfl) (fun u_1 H locs hw hP hD hS => ?_)
  have eu_1 := hw
  have ok_1 : okA u_1 := by rw [eu_1]; exact (ok_expect hA9)
  refine lv_iload_n hx hb d_A_behind_6 rfl (lv_at hl 1 rfl) ?_
  exact zl_i (u := u_1) hx hb hr hlocks hS hP hD (⟨by simp only [f_behind, ← eu_1], by simp only [f_behind, ← eu_1]⟩) d_A_behind_7
theorem ok_behind {st : SA} {p : Int32} (h : okA st) : okA (f_behind st p).2 := ok_expect h
theorem d_A_checkRange_0 : decode c_A_checkRange 0 = .ok (.aload_n 0, 1) := by decide +kernel
theorem d_A_checkRange_1 : decode c_A_checkRange 1 = .ok (.invokevirtual 36, 3) := by decide +kernel
theorem d_A_checkRange_4 : decode c_A_checkRange 4 = .ok (.ifCond .eq 19, 3) := by decide +kernel
theorem d_A_checkRange_7 : decode c_A_checkRange 7 = .ok (.iload_n 1, 1) := by decide +kernel
theorem d_A_checkRange_8 : decode c_A_checkRange 8 = .ok (.iload_n 2, 1) := by decide +kernel
theorem d_A_checkRange_9 : decode c_A_checkRange 9 = .ok (.if_icmp .lt 8, 3) := by decide +kernel
theorem d_A_checkRange_12 : decode c_A_checkRange 12 = .ok (.iload_n 1, 1) := by decide +kernel
theorem d_A_checkRange_13 : decode c_A_checkRange 13 = .ok (.iload_n 3, 1) := by decide +kernel
theorem d_A_checkRange_14 : decode c_A_checkRange 14 = .ok (.if_icmp .le 9, 3) := by decide +kernel
theorem d_A_checkRange_17 : decode c_A_checkRange 17 = .ok (.aload_n 0, 1) := by decide +kernel
theorem d_A_checkRange_18 : decode c_A_checkRange 18 = .ok (.iload 4, 2) := by decide +kernel
theorem d_A_checkRange_20 : decode c_A_checkRange 20 = .ok (.putfield 15, 3) := by decide +kernel
theorem d_A_checkRange_23 : decode c_A_checkRange 23 = .ok (.return_, 1) := by decide +kernel
theorem kd_A_checkRange : (y_A_checkRange).cls = "WindowMachine$Assembler" ∧ (y_A_checkRange).cls ≠ "java/lang/invoke/MethodHandle" ∧ (y_A_checkRange).cls ≠ "java/lang/invoke/VarHandle" ∧ (parseMethodDescriptor (y_A_checkRange).desc).map (fun d => d.parameters.length) = some 4 := by decide +kernel
def f_checkRange (st : SA) (p0 : Int32) (p1 : Int32) (p2 : Int32) (p3 : Int32) : SA := (let u_2 := (if (f_isGood st) = (0 : Int32) then st else (if p0 < p1 then (upd st.1 2 p3, st.2) else (if p0 ≤ p2 then st else (upd st.1 2 p3, st.2)))); u_2)
set_option maxHeartbeats 4000000 in
set_option maxRecDepth 100000 in
theorem mt_A_checkRange (l : Launch) (D : va_G) (a b : Nat) (k : ClassId) (sz : Nat) (st : SA) (p0 : Int32) (p1 : Int32) (p2 : Int32) (p3 : Int32) (hA9 : okA st) : Met l y_A_checkRange w_A_checkRange ({ frames := 1, cells := 0, slots := 0, locals := 20 }) (va_Pc [.ref a, .int p0, .int p1, .int p2, .int p3] (zw_pre D vwCl [(k, .char)] sz (wA a b k st) (fun _ => True))) (va_Qv (fun (u : SA) => u = f_checkRange st p0 p1 p2 p3) (fun u t => zw_at D vwCl (va_A (wA a b k st) sz) ((fun (u : SA) => wA a b k u) u) t) (va_A (wA a b k st) sz)) 0 0 (va_A (wA a b k st) sz) := by
  refine zm (Qf := fun A => va_Qv (fun (u : SA) => u = f_checkRange st p0 p1 p2 p3) (fun u t => zw_at D vwCl A ((fun (u : SA) => wA a b k u) u) t) A) (Zf := fun _ _ => True) (cc := c_A_checkRange) (nL := 5) (ret := none) (by decide) rfl (Nat.le_of_ble_eq_true rfl) ?_
  intro p e s m below meth c9 A H locs ls hx hb hml hown hts hr hlocks hA hK hP hD hS hZ hl
  have hl : lv_has ls 5 [(0, .ref a), (1, .int p0), (2, .int p1), (3, .int p2), (4, .int p3)] := hl
  have ht : ∀ w9 ∈ zT, w9.before _ s = true := fun w9 h9 => hts w9 (List.mem_cons_of_mem _ h9)
  refine lv_aload_n hx hb d_A_checkRange_0 rfl (lv_at hl 0 rfl) ?_
  refine zc_i (w2 := fun _ => wA a b k st) (va_runV (As := []) (rest := []) ⟨hx, hb, hml, hown, ht⟩ (mt_A_isGood l D a b k H.size st) (cwV 0 ht (zgV zw_408 zw_410 zs_11 zw_3 zw_411) rfl rfl rfl kd_A_isGood ⟨Nat.le_of_ble_eq_true rfl, Nat.le_of_ble_eq_true rfl⟩) ⟨zw_blind zw_tt, va_recv (hK.sub (tys' := [(k, .char)]) [0] rfl) (hP.sub (ws' := wA a b k st) [0, 1] rfl) (ci := 0) (q0 := 0) rfl rfl, zw_go (hP.sub (ws' := wA a b k st) [0, 1] rfl) (hD.sub (ws' := wA a b k st) [0, 1] (by decide) rfl) (hK.sub (tys' := [(k, .char)]) [0] rfl) (fun _ _ _ => trivial)⟩ rfl rfl hl.1 rfl (lv_room (Nat.le_of_ble_eq_true rfl)) d_A_checkRange_1 ⟨Nat.le_of_ble_eq_true rfl, Nat.le_of_ble_eq_true rfl⟩) hP hD hS hA [0, 1] [] [0, 1] rfl rfl (by decide) (by decide) (by decide) (fun _ => rfl) (fun r_1 _ H locs hw hP hD hS => ?_)
  subst hw
  refine zcut (X := SA) (G := fun v9 H locs ls => v9 = (if (f_isGood st) = (0 : Int32) then st else (if p0 < p1 then (upd st.1 2 p3, st.2) else (if p0 ≤ p2 then st else (upd st.1 2 p3, st.2)))) ∧ va_P D vwCl (wA a b k v9) H ∧ va_D A (wA a b k v9) ∧ va_S A s.heap H locs ∧ lv_has ls 5 [(0, .ref a), (1, .int p0), (2, .int p1), (3, .int p2), (4, .int p3)]) (fr := fun v9 ls => F0 m 23 ls []) (fun J_3 => ?_) (fun v9 H locs ls hG => ?_)
  · refine lv_if_eq (tgt := 23) hx hb d_A_checkRange_4 (by decide) (fun c_4 => ?_) (fun c_4 => ?_)
    · exact J_3 st _ _ _ ⟨by simp only [if_pos c_4], hP, hD, hS, hl⟩
    refine lv_iload_n hx hb d_A_checkRange_7 rfl (lv_at hl 1 rfl) ?_
    refine lv_iload_n hx hb d_A_checkRange_8 rfl (lv_at hl 2 rfl) ?_
    refine lv_icmp_lt (tgt := 17) hx hb d_A_checkRange_9 (by decide) (fun c_5 => ?_) (fun c_5 => ?_)
    · refine lv_aload_n hx hb d_A_checkRange_17 rfl (lv_at hl 0 rfl) ?_
      refine lv_iload hx hb d_A_checkRange_18 (lv_at hl 4 rfl) ?_
      refine va_put (D := D) (ci := 0) (v := .int p3) (ty := .int) (C := "WindowMachine$Assembler") (T := T_A) (N := 5) hx hb ht zi_A ty_A tyok_A nm_A hown hK hP hD hS 0 rfl rfl 3 (by decide) (ht _ zw_48) (fun _ h9 => h9) rfl (by decide +kernel) rfl rfl (Nat.le_of_ble_eq_true rfl) d_A_checkRange_20 (fun H locs hP hD hS => ?_)
      have hP : va_P D vwCl (wA a b k (upd st.1 2 p3, st.2)) H := hP
      have hD : va_D A (wA a b k (upd st.1 2 p3, st.2)) := hD
      exact J_3 (upd st.1 2 p3, st.2) _ _ _ ⟨by simp only [if_neg c_4, if_pos c_5], hP, hD, hS, hl⟩
    refine lv_iload_n hx hb d_A_checkRange_12 rfl (lv_at hl 1 rfl) ?_
    refine lv_iload_n hx hb d_A_checkRange_13 rfl (lv_at hl 3 rfl) ?_
    refine lv_icmp_le (tgt := 23) hx hb d_A_checkRange_14 (by decide) (fun c_6 => ?_) (fun c_6 => ?_)
    · exact J_3 st _ _ _ ⟨by simp only [if_neg c_4, if_neg c_5, if_pos c_6], hP, hD, hS, hl⟩
    refine lv_aload_n hx hb d_A_checkRange_17 rfl (lv_at hl 0 rfl) ?_
    refine lv_iload hx hb d_A_checkRange_18 (lv_at hl 4 rfl) ?_
    refine va_put (D := D) (ci := 0) (v := .int p3) (ty := .int) (C := "WindowMachine$Assembler") (T := T_A) (N := 5) hx hb ht zi_A ty_A tyok_A nm_A hown hK hP hD hS 0 rfl rfl 3 (by decide) (ht _ zw_48) (fun _ h9 => h9) rfl (by decide +kernel) rfl rfl (Nat.le_of_ble_eq_true rfl) d_A_checkRange_20 (fun H locs hP hD hS => ?_)
    have hP : va_P D vwCl (wA a b k (upd st.1 2 p3, st.2)) H := hP
    have hD : va_D A (wA a b k (upd st.1 2 p3, st.2)) := hD
    exact J_3 (upd st.1 2 p3, st.2) _ _ _ ⟨by simp only [if_neg c_4, if_neg c_5, if_neg c_6], hP, hD, hS, hl⟩
  obtain ⟨u_2, rfl⟩ : ∃ z, z = v9 := ⟨_, rfl⟩
  obtain ⟨eu_2, hP, hD, hS, hl⟩ := hG
  have ok_2 : okA u_2 := by rw [eu_2]; (repeat' split) <;> first | exact hA9
  exact zl_v (u := u_2) hx hb hr hlocks hS hP hD (by simp only [f_checkRange, ← eu_2]) d_A_checkRange_23
theorem ok_checkRange {st : SA} {a b c d : Int32} (h : okA st) : okA (f_checkRange st a b c d) := by
  unfold f_checkRange
  dsimp only
  repeat' split
  all_goals exact h
