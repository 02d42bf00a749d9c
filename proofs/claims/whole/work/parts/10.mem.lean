abbrev SP : Type := (Nat → Int32) × (Nat → Int32) × (Nat → Int32) × (Nat → Int32)
abbrev SA : Type := (Nat → Int32) × (Nat → Int32)
abbrev SX : Type := SP × SA
def wM (a b : Nat) (k : ClassId) (m : Nat → Int32) : va_W := [(a, .inr (1, [.ref b])), (b, .inl (k, 256, .inl m))]
def wR (a b : Nat) (k : ClassId) (r : Nat → Int32) : va_W := [(a, .inr (4, [.ref b])), (b, .inl (k, 72, .inl r))]
def wK (a : Nat) (x : Nat → Int32) : va_W := [(a, .inr (3, [.int (x 0), .int (x 1), .int (x 2), .int (x 3)]))]
def wP (h : Nat → Nat) (c : Nat → ClassId) (st : SP) : va_W :=
  [(h 0, .inr (2, [.ref (h 1), .ref (h 3), .ref (h 5), .int (st.1 0), .int (st.1 1), .int (st.1 2), .int (st.1 3), .int (st.1 4), .int (st.1 5), .int (st.1 6), .int (st.1 7), .int (st.1 8), .int (st.1 9), .int (st.1 10), .int (st.1 11), .int (st.1 12), .int (st.1 13), .int (st.1 14)])),
   (h 1, .inr (1, [.ref (h 2)])), (h 2, .inl (c 0, 256, .inl st.2.2.2)), (h 3, .inr (4, [.ref (h 4)])), (h 4, .inl (c 1, 72, .inl st.2.2.1)), (h 5, .inr (3, [.int (st.2.1 0), .int (st.2.1 1), .int (st.2.1 2), .int (st.2.1 3)]))]
def wA (a b : Nat) (k : ClassId) (st : SA) : va_W := [(a, .inr (0, [.ref b, .int (st.1 0), .int (st.1 1), .int (st.1 2), .int (st.1 3)])), (b, .inl (k, 40, .inl st.2))]
theorem d_M_shiftOf_0 : decode c_M_shiftOf 0 = .ok (.bipush 8, 2) := by decide +kernel
theorem d_M_shiftOf_2 : decode c_M_shiftOf 2 = .ok (.iconst 4, 1) := by decide +kernel
theorem d_M_shiftOf_3 : decode c_M_shiftOf 3 = .ok (.iload_n 1, 1) := by decide +kernel
theorem d_M_shiftOf_4 : decode c_M_shiftOf 4 = .ok (.isub, 1) := by decide +kernel
theorem d_M_shiftOf_5 : decode c_M_shiftOf 5 = .ok (.iload_n 0, 1) := by decide +kernel
theorem d_M_shiftOf_6 : decode c_M_shiftOf 6 = .ok (.iconst 3, 1) := by decide +kernel
theorem d_M_shiftOf_7 : decode c_M_shiftOf 7 = .ok (.iand, 1) := by decide +kernel
theorem d_M_shiftOf_8 : decode c_M_shiftOf 8 = .ok (.isub, 1) := by decide +kernel
theorem d_M_shiftOf_9 : decode c_M_shiftOf 9 = .ok (.imul, 1) := by decide +kernel
theorem d_M_shiftOf_10 : decode c_M_shiftOf 10 = .ok (.ireturn, 1) := by decide +kernel
theorem kd_M_shiftOf : (y_M_shiftOf).cls = "WindowMachine$Memory" ∧ (y_M_shiftOf).cls ≠ "java/lang/invoke/MethodHandle" ∧ (y_M_shiftOf).cls ≠ "java/lang/invoke/VarHandle" ∧ (parseMethodDescriptor (y_M_shiftOf).desc).map (fun d => d.parameters.length) = some 2 := by decide +kernel
def f_shiftOf (p0 : Int32) (p1 : Int32) : Int32 := (8 : Int32) * (((4 : Int32) - p1) - (p0 &&& (3 : Int32)))
set_option maxHeartbeats 4000000 in
set_option maxRecDepth 100000 in
theorem mt_M_shiftOf (l : Launch) (D : va_G) (sz : Nat) (p0 : Int32) (p1 : Int32) : Met l y_M_shiftOf w_M_shiftOf ({ frames := 0, cells := 0, slots := 0, locals := 0 }) (va_Pc [.int p0, .int p1] (zw_pre D vwCl [] sz ([]) (fun _ => True))) (va_Qi (fun r (_ : Unit) => r = f_shiftOf p0 p1) (fun u t => zw_at D vwCl (va_A ([]) sz) ((fun (_ : Unit) => []) u) t) (va_A ([]) sz)) 0 0 (va_A ([]) sz) := by
  refine zm (Qf := fun A => va_Qi (fun r (_ : Unit) => r = f_shiftOf p0 p1) (fun u t => zw_at D vwCl A ((fun (_ : Unit) => []) u) t) A) (Zf := fun _ _ => True) (cc := c_M_shiftOf) (nL := 2) (ret := (some .int)) (by decide) rfl (Nat.le_of_ble_eq_true rfl) ?_
  intro p e s m below meth c9 A H locs ls hx hb hml hown hts hr hlocks hA hK hP hD hS hZ hl
  have hl : lv_has ls 2 [(0, .int p0), (1, .int p1)] := hl
  have ht : ∀ w9 ∈ zT, w9.before _ s = true := fun w9 h9 => hts w9 (List.mem_cons_of_mem _ h9)
  refine lv_bipush (v := (8 : Int32)) hx hb d_M_shiftOf_0 (by decide) ?_
  refine lv_iconst (v := (4 : Int32)) hx hb d_M_shiftOf_2 (by decide) ?_
  refine lv_iload_n hx hb d_M_shiftOf_3 rfl (lv_at hl 1 rfl) ?_
  refine lv_isub hx hb d_M_shiftOf_4 ?_
  refine lv_iload_n hx hb d_M_shiftOf_5 rfl (lv_at hl 0 rfl) ?_
  refine lv_iconst (v := (3 : Int32)) hx hb d_M_shiftOf_6 (by decide) ?_
  refine lv_iand hx hb d_M_shiftOf_7 ?_
  refine lv_isub hx hb d_M_shiftOf_8 ?_
  refine lv_imul hx hb d_M_shiftOf_9 ?_
  exact zl_i (u := ()) hx hb hr hlocks hS hP hD (by simp only [f_shiftOf]) d_M_shiftOf_10
theorem d_M_maskOf_0 : decode c_M_maskOf 0 = .ok (.iload_n 0, 1) := by decide +kernel
theorem d_M_maskOf_1 : decode c_M_maskOf 1 = .ok (.iconst 4, 1) := by decide +kernel
theorem d_M_maskOf_2 : decode c_M_maskOf 2 = .ok (.if_icmp .ne 7, 3) := by decide +kernel
theorem d_M_maskOf_5 : decode c_M_maskOf 5 = .ok (.iconst (-1), 1) := by decide +kernel
theorem d_M_maskOf_6 : decode c_M_maskOf 6 = .ok (.goto 11, 3) := by decide +kernel
theorem d_M_maskOf_9 : decode c_M_maskOf 9 = .ok (.iconst 1, 1) := by decide +kernel
theorem d_M_maskOf_10 : decode c_M_maskOf 10 = .ok (.bipush 8, 2) := by decide +kernel
theorem d_M_maskOf_12 : decode c_M_maskOf 12 = .ok (.iload_n 0, 1) := by decide +kernel
theorem d_M_maskOf_13 : decode c_M_maskOf 13 = .ok (.imul, 1) := by decide +kernel
theorem d_M_maskOf_14 : decode c_M_maskOf 14 = .ok (.ishl, 1) := by decide +kernel
theorem d_M_maskOf_15 : decode c_M_maskOf 15 = .ok (.iconst 1, 1) := by decide +kernel
theorem d_M_maskOf_16 : decode c_M_maskOf 16 = .ok (.isub, 1) := by decide +kernel
theorem d_M_maskOf_17 : decode c_M_maskOf 17 = .ok (.ireturn, 1) := by decide +kernel
theorem kd_M_maskOf : (y_M_maskOf).cls = "WindowMachine$Memory" ∧ (y_M_maskOf).cls ≠ "java/lang/invoke/MethodHandle" ∧ (y_M_maskOf).cls ≠ "java/lang/invoke/VarHandle" ∧ (parseMethodDescriptor (y_M_maskOf).desc).map (fun d => d.parameters.length) = some 1 := by decide +kernel
def f_maskOf (p0 : Int32) : Int32 := (let x_1 := (if p0 = (4 : Int32) then (-1 : Int32) else ((1 : Int32) <<< (((8 : Int32) * p0) &&& 31)) - (1 : Int32)); x_1)
set_option maxHeartbeats 4000000 in
set_option maxRecDepth 100000 in
theorem mt_M_maskOf (l : Launch) (D : va_G) (sz : Nat) (p0 : Int32) : Met l y_M_maskOf w_M_maskOf ({ frames := 0, cells := 0, slots := 0, locals := 0 }) (va_Pc [.int p0] (zw_pre D vwCl [] sz ([]) (fun _ => True))) (va_Qi (fun r (_ : Unit) => r = f_maskOf p0) (fun u t => zw_at D vwCl (va_A ([]) sz) ((fun (_ : Unit) => []) u) t) (va_A ([]) sz)) 0 0 (va_A ([]) sz) := by
  refine zm (Qf := fun A => va_Qi (fun r (_ : Unit) => r = f_maskOf p0) (fun u t => zw_at D vwCl A ((fun (_ : Unit) => []) u) t) A) (Zf := fun _ _ => True) (cc := c_M_maskOf) (nL := 1) (ret := (some .int)) (by decide) rfl (Nat.le_of_ble_eq_true rfl) ?_
  intro p e s m below meth c9 A H locs ls hx hb hml hown hts hr hlocks hA hK hP hD hS hZ hl
  have hl : lv_has ls 1 [(0, .int p0)] := hl
  have ht : ∀ w9 ∈ zT, w9.before _ s = true := fun w9 h9 => hts w9 (List.mem_cons_of_mem _ h9)
  refine lv_iload_n hx hb d_M_maskOf_0 rfl (lv_at hl 0 rfl) ?_
  refine lv_iconst (v := (4 : Int32)) hx hb d_M_maskOf_1 (by decide) ?_
  refine zcut (X := Int32) (G := fun v9 H locs ls => v9 = (if p0 = (4 : Int32) then (-1 : Int32) else ((1 : Int32) <<< (((8 : Int32) * p0) &&& 31)) - (1 : Int32)) ∧ va_P D vwCl ([]) H ∧ va_D A ([]) ∧ va_S A s.heap H locs ∧ lv_has ls 1 [(0, .int p0)]) (fr := fun v9 ls => F0 m 17 ls [.int v9]) (fun J_2 => ?_) (fun v9 H locs ls hG => ?_)
  · refine lv_icmp_ne (tgt := 9) hx hb d_M_maskOf_2 (by decide) (fun c_3 => ?_) (fun c_3 => ?_)
    · refine lv_iconst (v := (1 : Int32)) hx hb d_M_maskOf_9 (by decide) ?_
      refine lv_bipush (v := (8 : Int32)) hx hb d_M_maskOf_10 (by decide) ?_
      refine lv_iload_n hx hb d_M_maskOf_12 rfl (lv_at hl 0 rfl) ?_
      refine lv_imul hx hb d_M_maskOf_13 ?_
      refine lv_ishl hx hb d_M_maskOf_14 ?_
      refine lv_iconst (v := (1 : Int32)) hx hb d_M_maskOf_15 (by decide) ?_
      refine lv_isub hx hb d_M_maskOf_16 ?_
      exact J_2 (((1 : Int32) <<< (((8 : Int32) * p0) &&& 31)) - (1 : Int32)) _ _ _ ⟨by simp only [if_neg c_3], hP, hD, hS, hl⟩
    refine lv_iconst (v := (-1 : Int32)) hx hb d_M_maskOf_5 (by decide) ?_
    refine lv_goto (tgt := 17) hx hb d_M_maskOf_6 (by decide) ?_
    exact J_2 (-1 : Int32) _ _ _ ⟨by simp only [if_pos c_3], hP, hD, hS, hl⟩
  obtain ⟨x_1, rfl⟩ : ∃ z, z = v9 := ⟨_, rfl⟩
  obtain ⟨ex_1, hP, hD, hS, hl⟩ := hG
  exact zl_i (u := ()) hx hb hr hlocks hS hP hD (by subst ex_1; simp only [f_maskOf]) d_M_maskOf_17
theorem d_M_holds_0 : decode c_M_holds 0 = .ok (.iload_n 1, 1) := by decide +kernel
theorem d_M_holds_1 : decode c_M_holds 1 = .ok (.ifCond .lt 16, 3) := by decide +kernel
theorem d_M_holds_4 : decode c_M_holds 4 = .ok (.iload_n 1, 1) := by decide +kernel
theorem d_M_holds_5 : decode c_M_holds 5 = .ok (.sipush 1024, 3) := by decide +kernel
theorem d_M_holds_8 : decode c_M_holds 8 = .ok (.iload_n 2, 1) := by decide +kernel
theorem d_M_holds_9 : decode c_M_holds 9 = .ok (.isub, 1) := by decide +kernel
theorem d_M_holds_10 : decode c_M_holds 10 = .ok (.if_icmp .gt 7, 3) := by decide +kernel
theorem d_M_holds_13 : decode c_M_holds 13 = .ok (.iconst 1, 1) := by decide +kernel
theorem d_M_holds_14 : decode c_M_holds 14 = .ok (.goto 4, 3) := by decide +kernel
theorem d_M_holds_17 : decode c_M_holds 17 = .ok (.iconst 0, 1) := by decide +kernel
theorem d_M_holds_18 : decode c_M_holds 18 = .ok (.ireturn, 1) := by decide +kernel
theorem kd_M_holds : (y_M_holds).cls = "WindowMachine$Memory" ∧ (y_M_holds).cls ≠ "java/lang/invoke/MethodHandle" ∧ (y_M_holds).cls ≠ "java/lang/invoke/VarHandle" ∧ (parseMethodDescriptor (y_M_holds).desc).map (fun d => d.parameters.length) = some 2 := by decide +kernel
def f_holds (p0 : Int32) (p1 : Int32) : Int32 := (let x_1 := (if p0 < (0 : Int32) then (0 : Int32) else (if ((1024 : Int32) - p1) < p0 then (0 : Int32) else (1 : Int32))); x_1)
set_option maxHeartbeats 4000000 in
set_option maxRecDepth 100000 in
theorem mt_M_holds (l : Launch) (D : va_G) (a b : Nat) (k : ClassId) (sz : Nat) (st : Nat → Int32) (p0 : Int32) (p1 : Int32) : Met l y_M_holds w_M_holds ({ frames := 0, cells := 0, slots := 0, locals := 0 }) (va_Pc [.ref a, .int p0, .int p1] (zw_pre D vwCl [(k, .int)] sz (wM a b k st) (fun _ => True))) (va_Qi (fun r (_ : Unit) => r = f_holds p0 p1) (fun u t => zw_at D vwCl (va_A (wM a b k st) sz) ((fun (_ : Unit) => wM a b k st) u) t) (va_A (wM a b k st) sz)) 0 0 (va_A (wM a b k st) sz) := by
  refine zm (Qf := fun A => va_Qi (fun r (_ : Unit) => r = f_holds p0 p1) (fun u t => zw_at D vwCl A ((fun (_ : Unit) => wM a b k st) u) t) A) (Zf := fun _ _ => True) (cc := c_M_holds) (nL := 3) (ret := (some .boolean)) (by decide) rfl (Nat.le_of_ble_eq_true rfl) ?_
  intro p e s m below meth c9 A H locs ls hx hb hml hown hts hr hlocks hA hK hP hD hS hZ hl
  have hl : lv_has ls 3 [(0, .ref a), (1, .int p0), (2, .int p1)] := hl
  have ht : ∀ w9 ∈ zT, w9.before _ s = true := fun w9 h9 => hts w9 (List.mem_cons_of_mem _ h9)
  refine lv_iload_n hx hb d_M_holds_0 rfl (lv_at hl 1 rfl) ?_
  refine zcut (X := Int32) (G := fun v9 H locs ls => v9 = (if p0 < (0 : Int32) then (0 : Int32) else (if ((1024 : Int32) - p1) < p0 then (0 : Int32) else (1 : Int32))) ∧ va_P D vwCl (wM a b k st) H ∧ va_D A (wM a b k st) ∧ va_S A s.heap H locs ∧ lv_has ls 3 [(0, .ref a), (1, .int p0), (2, .int p1)]) (fr := fun v9 ls => F0 m 18 ls [.int v9]) (fun J_2 => ?_) (fun v9 H locs ls hG => ?_)
  · refine lv_if_lt (tgt := 17) hx hb d_M_holds_1 (by decide) (fun c_3 => ?_) (fun c_3 => ?_)
    · refine lv_iconst (v := (0 : Int32)) hx hb d_M_holds_17 (by decide) ?_
      exact J_2 (0 : Int32) _ _ _ ⟨by simp only [if_pos c_3], hP, hD, hS, hl⟩
    refine lv_iload_n hx hb d_M_holds_4 rfl (lv_at hl 1 rfl) ?_
    refine lv_sipush (v := (1024 : Int32)) hx hb d_M_holds_5 (by decide) ?_
    refine lv_iload_n hx hb d_M_holds_8 rfl (lv_at hl 2 rfl) ?_
    refine lv_isub hx hb d_M_holds_9 ?_
    refine lv_icmp_gt (tgt := 17) hx hb d_M_holds_10 (by decide) (fun c_4 => ?_) (fun c_4 => ?_)
    · refine lv_iconst (v := (0 : Int32)) hx hb d_M_holds_17 (by decide) ?_
      exact J_2 (0 : Int32) _ _ _ ⟨by simp only [if_neg c_3, if_pos c_4], hP, hD, hS, hl⟩
    refine lv_iconst (v := (1 : Int32)) hx hb d_M_holds_13 (by decide) ?_
    refine lv_goto (tgt := 18) hx hb d_M_holds_14 (by decide) ?_
    exact J_2 (1 : Int32) _ _ _ ⟨by simp only [if_neg c_3, if_neg c_4], hP, hD, hS, hl⟩
  obtain ⟨x_1, rfl⟩ : ∃ z, z = v9 := ⟨_, rfl⟩
  obtain ⟨ex_1, hP, hD, hS, hl⟩ := hG
  have zbx_1 : zB x_1 := by rw [ex_1]; repeat' first | exact zB0 | exact zB1 | assumption | apply zB_ite
  exact zl_z (u := ()) hx hb hr (zbx_1).n hlocks hS hP hD (by subst ex_1; simp only [f_holds]) d_M_holds_18
theorem d_M_load_0 : decode c_M_load 0 = .ok (.aload_n 0, 1) := by decide +kernel
theorem d_M_load_1 : decode c_M_load 1 = .ok (.getfield 11, 3) := by decide +kernel
theorem d_M_load_4 : decode c_M_load 4 = .ok (.iload_n 1, 1) := by decide +kernel
theorem d_M_load_5 : decode c_M_load 5 = .ok (.iconst 4, 1) := by decide +kernel
theorem d_M_load_6 : decode c_M_load 6 = .ok (.idiv, 1) := by decide +kernel
theorem d_M_load_7 : decode c_M_load 7 = .ok (.iaload, 1) := by decide +kernel
theorem d_M_load_8 : decode c_M_load 8 = .ok (.iload_n 1, 1) := by decide +kernel
theorem d_M_load_9 : decode c_M_load 9 = .ok (.iload_n 2, 1) := by decide +kernel
theorem d_M_load_10 : decode c_M_load 10 = .ok (.invokestatic 15, 3) := by decide +kernel
theorem d_M_load_13 : decode c_M_load 13 = .ok (.iushr, 1) := by decide +kernel
theorem d_M_load_14 : decode c_M_load 14 = .ok (.iload_n 2, 1) := by decide +kernel
theorem d_M_load_15 : decode c_M_load 15 = .ok (.invokestatic 19, 3) := by decide +kernel
theorem d_M_load_18 : decode c_M_load 18 = .ok (.iand, 1) := by decide +kernel
theorem d_M_load_19 : decode c_M_load 19 = .ok (.ireturn, 1) := by decide +kernel
theorem kd_M_load : (y_M_load).cls = "WindowMachine$Memory" ∧ (y_M_load).cls ≠ "java/lang/invoke/MethodHandle" ∧ (y_M_load).cls ≠ "java/lang/invoke/VarHandle" ∧ (parseMethodDescriptor (y_M_load).desc).map (fun d => d.parameters.length) = some 2 := by decide +kernel
def f_load (st : Nat → Int32) (p0 : Int32) (p1 : Int32) : Int32 := (zushr (st (p0 / (4 : Int32)).toNatClampNeg) (f_shiftOf p0 p1)) &&& (f_maskOf p1)
set_option maxHeartbeats 4000000 in
set_option maxRecDepth 100000 in
theorem mt_M_load (l : Launch) (D : va_G) (a b : Nat) (k : ClassId) (sz : Nat) (st : Nat → Int32) (p0 : Int32) (p1 : Int32) (hi : vp_in (p0 / 4) 256) : Met l y_M_load w_M_load ({ frames := 1, cells := 0, slots := 0, locals := 21 }) (va_Pc [.ref a, .int p0, .int p1] (zw_pre D vwCl [(k, .int)] sz (wM a b k st) (fun _ => True))) (va_Qi (fun r (_ : Unit) => r = f_load st p0 p1) (fun u t => zw_at D vwCl (va_A (wM a b k st) sz) ((fun (_ : Unit) => wM a b k st) u) t) (va_A (wM a b k st) sz)) 0 0 (va_A (wM a b k st) sz) := by
  refine zm (Qf := fun A => va_Qi (fun r (_ : Unit) => r = f_load st p0 p1) (fun u t => zw_at D vwCl A ((fun (_ : Unit) => wM a b k st) u) t) A) (Zf := fun _ _ => True) (cc := c_M_load) (nL := 3) (ret := (some .int)) (by decide) rfl (Nat.le_of_ble_eq_true rfl) ?_
  intro p e s m below meth c9 A H locs ls hx hb hml hown hts hr hlocks hA hK hP hD hS hZ hl
  have hl : lv_has ls 3 [(0, .ref a), (1, .int p0), (2, .int p1)] := hl
  have ht : ∀ w9 ∈ zT, w9.before _ s = true := fun w9 h9 => hts w9 (List.mem_cons_of_mem _ h9)
  refine lv_aload_n hx hb d_M_load_0 rfl (lv_at hl 0 rfl) ?_
  refine va_get (D := D) (ci := 1) (v := .ref b) (C := "WindowMachine$Memory") (T := T_M) (N := 1) hx hb ht zi_M hown hK hP 0 rfl rfl 0 (by decide) (ht _ zw_33) (fun _ h9 => h9) rfl d_M_load_1 ?_
  refine lv_iload_n hx hb d_M_load_4 rfl (lv_at hl 1 rfl) ?_
  refine lv_iconst (v := (4 : Int32)) hx hb d_M_load_5 (by decide) ?_
  refine lv_idiv hx hb d_M_load_6 (by decide) ?_
  refine va_iald hx hb hK hP 1 0 rfl rfl hi d_M_load_7 ?_
  refine lv_iload_n hx hb d_M_load_8 rfl (lv_at hl 1 rfl) ?_
  refine lv_iload_n hx hb d_M_load_9 rfl (lv_at hl 2 rfl) ?_
  refine zc_i (w2 := fun _ => wM a b k st) (va_runS (As := [.int p0, .int p1]) (rest := [.int (st (p0 / (4 : Int32)).toNatClampNeg)]) ⟨hx, hb, hml, hown, ht⟩ (mt_M_shiftOf l D H.size p0 p1) (cwS 2 ht (zgS zw_468 zw_469 zw_2 zw_470) rfl rfl rfl kd_M_shiftOf ⟨Nat.le_of_ble_eq_true rfl, Nat.le_of_ble_eq_true rfl⟩) ⟨zw_blind zw_tt, zw_go (hP.sub (ws' := []) [] rfl) (hD.sub (ws' := []) [] (by decide) rfl) (hK.sub (tys' := []) [] rfl) (fun _ _ _ => trivial)⟩ rfl rfl hl.1 rfl (lv_room (Nat.le_of_ble_eq_true rfl)) d_M_load_10 ⟨Nat.le_of_ble_eq_true rfl, Nat.le_of_ble_eq_true rfl⟩) hP hD hS hA [] [0, 1] [0, 1] rfl rfl (by decide) (by decide) (by decide) (fun _ => rfl) (fun r_1 _ H locs hw hP hD hS => ?_)
  subst hw
  refine lv_iushr (v := zushr (st (p0 / (4 : Int32)).toNatClampNeg) (f_shiftOf p0 p1)) hx hb d_M_load_13 rfl ?_
  refine lv_iload_n hx hb d_M_load_14 rfl (lv_at hl 2 rfl) ?_
  refine zc_i (w2 := fun _ => wM a b k st) (va_runS (As := [.int p1]) (rest := [.int (zushr (st (p0 / (4 : Int32)).toNatClampNeg) (f_shiftOf p0 p1))]) ⟨hx, hb, hml, hown, ht⟩ (mt_M_maskOf l D H.size p1) (cwS 1 ht (zgS zw_471 zw_472 zw_2 zw_473) rfl rfl rfl kd_M_maskOf ⟨Nat.le_of_ble_eq_true rfl, Nat.le_of_ble_eq_true rfl⟩) ⟨zw_blind zw_tt, zw_go (hP.sub (ws' := []) [] rfl) (hD.sub (ws' := []) [] (by decide) rfl) (hK.sub (tys' := []) [] rfl) (fun _ _ _ => trivial)⟩ rfl rfl hl.1 rfl (lv_room (Nat.le_of_ble_eq_true rfl)) d_M_load_15 ⟨Nat.le_of_ble_eq_true rfl, Nat.le_of_ble_eq_true rfl⟩) hP hD hS hA [] [0, 1] [0, 1] rfl rfl (by decide) (by decide) (by decide) (fun _ => rfl) (fun r_2 _ H locs hw hP hD hS => ?_)
  subst hw
  refine lv_iand hx hb d_M_load_18 ?_
  exact zl_i (u := ()) hx hb hr hlocks hS hP hD (by simp only [f_load]) d_M_load_19
theorem d_M_store_0 : decode c_M_store 0 = .ok (.iload_n 1, 1) := by decide +kernel
theorem d_M_store_1 : decode c_M_store 1 = .ok (.iload_n 2, 1) := by decide +kernel
theorem d_M_store_2 : decode c_M_store 2 = .ok (.invokestatic 15, 3) := by decide +kernel
theorem d_M_store_5 : decode c_M_store 5 = .ok (.istore 4, 2) := by decide +kernel
theorem d_M_store_7 : decode c_M_store 7 = .ok (.iload_n 2, 1) := by decide +kernel
theorem d_M_store_8 : decode c_M_store 8 = .ok (.invokestatic 19, 3) := by decide +kernel
theorem d_M_store_11 : decode c_M_store 11 = .ok (.iload 4, 2) := by decide +kernel
theorem d_M_store_13 : decode c_M_store 13 = .ok (.ishl, 1) := by decide +kernel
theorem d_M_store_14 : decode c_M_store 14 = .ok (.istore 5, 2) := by decide +kernel
theorem d_M_store_16 : decode c_M_store 16 = .ok (.iload_n 1, 1) := by decide +kernel
theorem d_M_store_17 : decode c_M_store 17 = .ok (.iconst 4, 1) := by decide +kernel
theorem d_M_store_18 : decode c_M_store 18 = .ok (.idiv, 1) := by decide +kernel
theorem d_M_store_19 : decode c_M_store 19 = .ok (.istore 6, 2) := by decide +kernel
theorem d_M_store_21 : decode c_M_store 21 = .ok (.aload_n 0, 1) := by decide +kernel
theorem d_M_store_22 : decode c_M_store 22 = .ok (.getfield 11, 3) := by decide +kernel
theorem d_M_store_25 : decode c_M_store 25 = .ok (.iload 6, 2) := by decide +kernel
theorem d_M_store_27 : decode c_M_store 27 = .ok (.aload_n 0, 1) := by decide +kernel
theorem d_M_store_28 : decode c_M_store 28 = .ok (.getfield 11, 3) := by decide +kernel
theorem d_M_store_31 : decode c_M_store 31 = .ok (.iload 6, 2) := by decide +kernel
theorem d_M_store_33 : decode c_M_store 33 = .ok (.iaload, 1) := by decide +kernel
theorem d_M_store_34 : decode c_M_store 34 = .ok (.iload 5, 2) := by decide +kernel
theorem d_M_store_36 : decode c_M_store 36 = .ok (.iconst (-1), 1) := by decide +kernel
theorem d_M_store_37 : decode c_M_store 37 = .ok (.ixor, 1) := by decide +kernel
theorem d_M_store_38 : decode c_M_store 38 = .ok (.iand, 1) := by decide +kernel
theorem d_M_store_39 : decode c_M_store 39 = .ok (.iload_n 3, 1) := by decide +kernel
theorem d_M_store_40 : decode c_M_store 40 = .ok (.iload 4, 2) := by decide +kernel
theorem d_M_store_42 : decode c_M_store 42 = .ok (.ishl, 1) := by decide +kernel
theorem d_M_store_43 : decode c_M_store 43 = .ok (.iload 5, 2) := by decide +kernel
theorem d_M_store_45 : decode c_M_store 45 = .ok (.iand, 1) := by decide +kernel
theorem d_M_store_46 : decode c_M_store 46 = .ok (.ior, 1) := by decide +kernel
theorem d_M_store_47 : decode c_M_store 47 = .ok (.iastore, 1) := by decide +kernel
theorem d_M_store_48 : decode c_M_store 48 = .ok (.return_, 1) := by decide +kernel
theorem kd_M_store : (y_M_store).cls = "WindowMachine$Memory" ∧ (y_M_store).cls ≠ "java/lang/invoke/MethodHandle" ∧ (y_M_store).cls ≠ "java/lang/invoke/VarHandle" ∧ (parseMethodDescriptor (y_M_store).desc).map (fun d => d.parameters.length) = some 3 := by decide +kernel
def f_store (st : Nat → Int32) (p0 : Int32) (p1 : Int32) (p2 : Int32) : Nat → Int32 := (let x_3 := (f_maskOf p1) <<< ((f_shiftOf p0 p1) &&& 31); upd st (p0 / (4 : Int32)).toNatClampNeg (((st (p0 / (4 : Int32)).toNatClampNeg) &&& (x_3 ^^^ (-1 : Int32))) ||| ((p2 <<< ((f_shiftOf p0 p1) &&& 31)) &&& x_3)))
set_option maxHeartbeats 4000000 in
set_option maxRecDepth 100000 in
theorem mt_M_store (l : Launch) (D : va_G) (a b : Nat) (k : ClassId) (sz : Nat) (st : Nat → Int32) (p0 : Int32) (p1 : Int32) (p2 : Int32) (hi : vp_in (p0 / 4) 256) : Met l y_M_store w_M_store ({ frames := 1, cells := 0, slots := 0, locals := 21 }) (va_Pc [.ref a, .int p0, .int p1, .int p2] (zw_pre D vwCl [(k, .int)] sz (wM a b k st) (fun _ => True))) (va_Qv (fun (u : Nat → Int32) => u = f_store st p0 p1 p2) (fun u t => zw_at D vwCl (va_A (wM a b k st) sz) ((fun (u : Nat → Int32) => wM a b k u) u) t) (va_A (wM a b k st) sz)) 0 0 (va_A (wM a b k st) sz) := by
  refine zm (Qf := fun A => va_Qv (fun (u : Nat → Int32) => u = f_store st p0 p1 p2) (fun u t => zw_at D vwCl A ((fun (u : Nat → Int32) => wM a b k u) u) t) A) (Zf := fun _ _ => True) (cc := c_M_store) (nL := 7) (ret := none) (by decide) rfl (Nat.le_of_ble_eq_true rfl) ?_
  intro p e s m below meth c9 A H locs ls hx hb hml hown hts hr hlocks hA hK hP hD hS hZ hl
  have hl : lv_has ls 7 [(0, .ref a), (1, .int p0), (2, .int p1), (3, .int p2)] := hl
  have ht : ∀ w9 ∈ zT, w9.before _ s = true := fun w9 h9 => hts w9 (List.mem_cons_of_mem _ h9)
  refine lv_iload_n hx hb d_M_store_0 rfl (lv_at hl 1 rfl) ?_
  refine lv_iload_n hx hb d_M_store_1 rfl (lv_at hl 2 rfl) ?_
  refine zc_i (w2 := fun _ => wM a b k st) (va_runS (As := [.int p0, .int p1]) (rest := []) ⟨hx, hb, hml, hown, ht⟩ (mt_M_shiftOf l D H.size p0 p1) (cwS 2 ht (zgS zw_468 zw_469 zw_2 zw_470) rfl rfl rfl kd_M_shiftOf ⟨Nat.le_of_ble_eq_true rfl, Nat.le_of_ble_eq_true rfl⟩) ⟨zw_blind zw_tt, zw_go (hP.sub (ws' := []) [] rfl) (hD.sub (ws' := []) [] (by decide) rfl) (hK.sub (tys' := []) [] rfl) (fun _ _ _ => trivial)⟩ rfl rfl hl.1 rfl (lv_room (Nat.le_of_ble_eq_true rfl)) d_M_store_2 ⟨Nat.le_of_ble_eq_true rfl, Nat.le_of_ble_eq_true rfl⟩) hP hD hS hA [] [0, 1] [0, 1] rfl rfl (by decide) (by decide) (by decide) (fun _ => rfl) (fun r_1 _ H locs hw hP hD hS => ?_)
  subst hw
  refine lv_istore (lv' := [(4, .int (f_shiftOf p0 p1)), (0, .ref a), (1, .int p0), (2, .int p1), (3, .int p2)]) hx hb d_M_store_5 hl (by decide) rfl (fun ls hl => ?_)
  refine lv_iload_n hx hb d_M_store_7 rfl (lv_at hl 3 rfl) ?_
  refine zc_i (w2 := fun _ => wM a b k st) (va_runS (As := [.int p1]) (rest := []) ⟨hx, hb, hml, hown, ht⟩ (mt_M_maskOf l D H.size p1) (cwS 1 ht (zgS zw_471 zw_472 zw_2 zw_473) rfl rfl rfl kd_M_maskOf ⟨Nat.le_of_ble_eq_true rfl, Nat.le_of_ble_eq_true rfl⟩) ⟨zw_blind zw_tt, zw_go (hP.sub (ws' := []) [] rfl) (hD.sub (ws' := []) [] (by decide) rfl) (hK.sub (tys' := []) [] rfl) (fun _ _ _ => trivial)⟩ rfl rfl hl.1 rfl (lv_room (Nat.le_of_ble_eq_true rfl)) d_M_store_8 ⟨Nat.le_of_ble_eq_true rfl, Nat.le_of_ble_eq_true rfl⟩) hP hD hS hA [] [0, 1] [0, 1] rfl rfl (by decide) (by decide) (by decide) (fun _ => rfl) (fun r_2 _ H locs hw hP hD hS => ?_)
  subst hw
  refine lv_iload hx hb d_M_store_11 (lv_at hl 0 rfl) ?_
  refine lv_ishl hx hb d_M_store_13 ?_
  refine lv_topi (fun x_3 ex_3 => ?_)
  refine lv_istore (lv' := [(5, .int x_3), (4, .int (f_shiftOf p0 p1)), (0, .ref a), (1, .int p0), (2, .int p1), (3, .int p2)]) hx hb d_M_store_14 hl (by decide) rfl (fun ls hl => ?_)
  refine lv_iload_n hx hb d_M_store_16 rfl (lv_at hl 3 rfl) ?_
  refine lv_iconst (v := (4 : Int32)) hx hb d_M_store_17 (by decide) ?_
  refine lv_idiv hx hb d_M_store_18 (by decide) ?_
  refine lv_istore (lv' := [(6, .int (p0 / (4 : Int32))), (5, .int x_3), (4, .int (f_shiftOf p0 p1)), (0, .ref a), (1, .int p0), (2, .int p1), (3, .int p2)]) hx hb d_M_store_19 hl (by decide) rfl (fun ls hl => ?_)
  refine lv_aload_n hx hb d_M_store_21 rfl (lv_at hl 3 rfl) ?_
  refine va_get (D := D) (ci := 1) (v := .ref b) (C := "WindowMachine$Memory") (T := T_M) (N := 1) hx hb ht zi_M hown hK hP 0 rfl rfl 0 (by decide) (ht _ zw_33) (fun _ h9 => h9) rfl d_M_store_22 ?_
  refine lv_iload hx hb d_M_store_25 (lv_at hl 0 rfl) ?_
  refine lv_aload_n hx hb d_M_store_27 rfl (lv_at hl 3 rfl) ?_
  refine va_get (D := D) (ci := 1) (v := .ref b) (C := "WindowMachine$Memory") (T := T_M) (N := 1) hx hb ht zi_M hown hK hP 0 rfl rfl 0 (by decide) (ht _ zw_33) (fun _ h9 => h9) rfl d_M_store_28 ?_
  refine lv_iload hx hb d_M_store_31 (lv_at hl 0 rfl) ?_
  refine va_iald hx hb hK hP 1 0 rfl rfl hi d_M_store_33 ?_
  refine lv_iload hx hb d_M_store_34 (lv_at hl 1 rfl) ?_
  refine lv_iconst (v := (-1 : Int32)) hx hb d_M_store_36 (by decide) ?_
  refine lv_ixor hx hb d_M_store_37 ?_
  refine lv_iand hx hb d_M_store_38 ?_
  refine lv_iload_n hx hb d_M_store_39 rfl (lv_at hl 6 rfl) ?_
  refine lv_iload hx hb d_M_store_40 (lv_at hl 2 rfl) ?_
  refine lv_ishl hx hb d_M_store_42 ?_
  refine lv_iload hx hb d_M_store_43 (lv_at hl 1 rfl) ?_
  refine lv_iand hx hb d_M_store_45 ?_
  refine lv_ior hx hb d_M_store_46 ?_
  refine va_iast hx hb hK hP hD hS 1 0 rfl rfl hi d_M_store_47 (fun H locs hP hD hS => ?_)
  have hP : va_P D vwCl (wM a b k (upd st (p0 / (4 : Int32)).toNatClampNeg (((st (p0 / (4 : Int32)).toNatClampNeg) &&& (x_3 ^^^ (-1 : Int32))) ||| ((p2 <<< ((f_shiftOf p0 p1) &&& 31)) &&& x_3)))) H := hP
  have hD : va_D A (wM a b k (upd st (p0 / (4 : Int32)).toNatClampNeg (((st (p0 / (4 : Int32)).toNatClampNeg) &&& (x_3 ^^^ (-1 : Int32))) ||| ((p2 <<< ((f_shiftOf p0 p1) &&& 31)) &&& x_3)))) := hD
  exact zl_v (u := upd st (p0 / (4 : Int32)).toNatClampNeg (((st (p0 / (4 : Int32)).toNatClampNeg) &&& (x_3 ^^^ (-1 : Int32))) ||| ((p2 <<< ((f_shiftOf p0 p1) &&& 31)) &&& x_3))) hx hb hr hlocks hS hP hD (by subst ex_3; simp only [f_store]) d_M_store_48
