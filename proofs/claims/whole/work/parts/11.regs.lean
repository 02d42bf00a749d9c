theorem d_R_cellOf_0 : decode c_R_cellOf 0 = .ok (.iload_n 1, 1) := by decide +kernel
theorem d_R_cellOf_1 : decode c_R_cellOf 1 = .ok (.bipush 8, 2) := by decide +kernel
theorem d_R_cellOf_3 : decode c_R_cellOf 3 = .ok (.if_icmp .ge 5, 3) := by decide +kernel
theorem d_R_cellOf_6 : decode c_R_cellOf 6 = .ok (.iload_n 1, 1) := by decide +kernel
theorem d_R_cellOf_7 : decode c_R_cellOf 7 = .ok (.ireturn, 1) := by decide +kernel
theorem d_R_cellOf_8 : decode c_R_cellOf 8 = .ok (.bipush 8, 2) := by decide +kernel
theorem d_R_cellOf_10 : decode c_R_cellOf 10 = .ok (.bipush 16, 2) := by decide +kernel
theorem d_R_cellOf_12 : decode c_R_cellOf 12 = .ok (.iload_n 0, 1) := by decide +kernel
theorem d_R_cellOf_13 : decode c_R_cellOf 13 = .ok (.imul, 1) := by decide +kernel
theorem d_R_cellOf_14 : decode c_R_cellOf 14 = .ok (.iload_n 1, 1) := by decide +kernel
theorem d_R_cellOf_15 : decode c_R_cellOf 15 = .ok (.iadd, 1) := by decide +kernel
theorem d_R_cellOf_16 : decode c_R_cellOf 16 = .ok (.bipush 8, 2) := by decide +kernel
theorem d_R_cellOf_18 : decode c_R_cellOf 18 = .ok (.isub, 1) := by decide +kernel
theorem d_R_cellOf_19 : decode c_R_cellOf 19 = .ok (.bipush 64, 2) := by decide +kernel
theorem d_R_cellOf_21 : decode c_R_cellOf 21 = .ok (.irem, 1) := by decide +kernel
theorem d_R_cellOf_22 : decode c_R_cellOf 22 = .ok (.iadd, 1) := by decide +kernel
theorem d_R_cellOf_23 : decode c_R_cellOf 23 = .ok (.ireturn, 1) := by decide +kernel
theorem kd_R_cellOf : (y_R_cellOf).cls = "WindowMachine$Registers" ∧ (y_R_cellOf).cls ≠ "java/lang/invoke/MethodHandle" ∧ (y_R_cellOf).cls ≠ "java/lang/invoke/VarHandle" ∧ (parseMethodDescriptor (y_R_cellOf).desc).map (fun d => d.parameters.length) = some 2 := by decide +kernel
def f_cellOf (p0 : Int32) (p1 : Int32) : Int32 := (if (8 : Int32) ≤ p1 then (8 : Int32) + (((((16 : Int32) * p0) + p1) - (8 : Int32)) - ((((16 : Int32) * p0) + p1) - (8 : Int32)) / (64 : Int32) * (64 : Int32)) else p1)
set_option maxHeartbeats 4000000 in
set_option maxRecDepth 100000 in
theorem mt_R_cellOf (l : Launch) (D : va_G) (sz : Nat) (p0 : Int32) (p1 : Int32) : Met l y_R_cellOf w_R_cellOf ({ frames := 0, cells := 0, slots := 0, locals := 0 }) (va_Pc [.int p0, .int p1] (zw_pre D vwCl [] sz ([]) (fun _ => True))) (va_Qi (fun r (_ : Unit) => r = f_cellOf p0 p1) (fun u t => zw_at D vwCl (va_A ([]) sz) ((fun (_ : Unit) => []) u) t) (va_A ([]) sz)) 0 0 (va_A ([]) sz) := by
  refine zm (Qf := fun A => va_Qi (fun r (_ : Unit) => r = f_cellOf p0 p1) (fun u t => zw_at D vwCl A ((fun (_ : Unit) => []) u) t) A) (Zf := fun _ _ => True) (cc := c_R_cellOf) (nL := 2) (ret := (some .int)) (by decide) rfl (Nat.le_of_ble_eq_true rfl) ?_
  intro p e s m below meth c9 A H locs ls hx hb hml hown hts hr hlocks hA hK hP hD hS hZ hl
  have hl : lv_has ls 2 [(0, .int p0), (1, .int p1)] := hl
  have ht : ∀ w9 ∈ zT, w9.before _ s = true := fun w9 h9 => hts w9 (List.mem_cons_of_mem _ h9)
  refine lv_iload_n hx hb d_R_cellOf_0 rfl (lv_at hl 1 rfl) ?_
  refine lv_bipush (v := (8 : Int32)) hx hb d_R_cellOf_1 (by decide) ?_
  refine lv_icmp_ge (tgt := 8) hx hb d_R_cellOf_3 (by decide) (fun c_1 => ?_) (fun c_1 => ?_)
  · refine lv_bipush (v := (8 : Int32)) hx hb d_R_cellOf_8 (by decide) ?_
    refine lv_bipush (v := (16 : Int32)) hx hb d_R_cellOf_10 (by decide) ?_
    refine lv_iload_n hx hb d_R_cellOf_12 rfl (lv_at hl 0 rfl) ?_
    refine lv_imul hx hb d_R_cellOf_13 ?_
    refine lv_iload_n hx hb d_R_cellOf_14 rfl (lv_at hl 1 rfl) ?_
    refine lv_iadd hx hb d_R_cellOf_15 ?_
    refine lv_bipush (v := (8 : Int32)) hx hb d_R_cellOf_16 (by decide) ?_
    refine lv_isub hx hb d_R_cellOf_18 ?_
    refine lv_bipush (v := (64 : Int32)) hx hb d_R_cellOf_19 (by decide) ?_
    refine lv_irem hx hb d_R_cellOf_21 (by decide) ?_
    refine lv_iadd hx hb d_R_cellOf_22 ?_
    exact zl_i (u := ()) hx hb hr hlocks hS hP hD (by simp only [f_cellOf, if_pos c_1]) d_R_cellOf_23
  refine lv_iload_n hx hb d_R_cellOf_6 rfl (lv_at hl 1 rfl) ?_
  exact zl_i (u := ()) hx hb hr hlocks hS hP hD (by simp only [f_cellOf, if_neg c_1]) d_R_cellOf_7
theorem cell_in {w n : Int32} (hw : vp_in w 4) (hn : vp_in n 32) : vp_in (f_cellOf w n) 72 := by
  obtain ⟨i, hi, rfl⟩ := vp_in_of hw (by omega)
  obtain ⟨j, hj, rfl⟩ := vp_in_of hn (by omega)
  have h : ∀ i : Fin 4, ∀ j : Fin 32, ¬ (f_cellOf (nI i) (nI j) < 0 ∨ 72 ≤ (f_cellOf (nI i) (nI j)).toNatClampNeg) := by decide +kernel
  exact h ⟨i, hi⟩ ⟨j, hj⟩
theorem znlt {N i : Nat} (hi : i < 2 ^ 31) (c : ¬ nI N ≤ nI i) : i < N := by
  rcases Nat.lt_or_ge i N with q | q
  · exact q
  · exact absurd (nI_le q hi) c
theorem d_R_read_0 : decode c_R_read 0 = .ok (.aload_n 0, 1) := by decide +kernel
theorem d_R_read_1 : decode c_R_read 1 = .ok (.getfield 11, 3) := by decide +kernel
theorem d_R_read_4 : decode c_R_read 4 = .ok (.iload_n 1, 1) := by decide +kernel
theorem d_R_read_5 : decode c_R_read 5 = .ok (.iload_n 2, 1) := by decide +kernel
theorem d_R_read_6 : decode c_R_read 6 = .ok (.invokestatic 15, 3) := by decide +kernel
theorem d_R_read_9 : decode c_R_read 9 = .ok (.iaload, 1) := by decide +kernel
theorem d_R_read_10 : decode c_R_read 10 = .ok (.ireturn, 1) := by decide +kernel
theorem kd_R_read : (y_R_read).cls = "WindowMachine$Registers" ∧ (y_R_read).cls ≠ "java/lang/invoke/MethodHandle" ∧ (y_R_read).cls ≠ "java/lang/invoke/VarHandle" ∧ (parseMethodDescriptor (y_R_read).desc).map (fun d => d.parameters.length) = some 2 := by decide +kernel
def f_rread (st : Nat → Int32) (p0 : Int32) (p1 : Int32) : Int32 := st (f_cellOf p0 p1).toNatClampNeg
set_option maxHeartbeats 4000000 in
set_option maxRecDepth 100000 in
theorem mt_R_read (l : Launch) (D : va_G) (a b : Nat) (k : ClassId) (sz : Nat) (st : Nat → Int32) (p0 : Int32) (p1 : Int32) (hw9 : vp_in p0 4) (hn9 : vp_in p1 32) : Met l y_R_read w_R_read ({ frames := 1, cells := 0, slots := 0, locals := 21 }) (va_Pc [.ref a, .int p0, .int p1] (zw_pre D vwCl [(k, .int)] sz (wR a b k st) (fun _ => True))) (va_Qi (fun r (_ : Unit) => r = f_rread st p0 p1) (fun u t => zw_at D vwCl (va_A (wR a b k st) sz) ((fun (_ : Unit) => wR a b k st) u) t) (va_A (wR a b k st) sz)) 0 0 (va_A (wR a b k st) sz) := by
  refine zm (Qf := fun A => va_Qi (fun r (_ : Unit) => r = f_rread st p0 p1) (fun u t => zw_at D vwCl A ((fun (_ : Unit) => wR a b k st) u) t) A) (Zf := fun _ _ => True) (cc := c_R_read) (nL := 3) (ret := (some .int)) (by decide) rfl (Nat.le_of_ble_eq_true rfl) ?_
  intro p e s m below meth c9 A H locs ls hx hb hml hown hts hr hlocks hA hK hP hD hS hZ hl
  have hl : lv_has ls 3 [(0, .ref a), (1, .int p0), (2, .int p1)] := hl
  have ht : ∀ w9 ∈ zT, w9.before _ s = true := fun w9 h9 => hts w9 (List.mem_cons_of_mem _ h9)
  refine lv_aload_n hx hb d_R_read_0 rfl (lv_at hl 0 rfl) ?_
  refine va_get (D := D) (ci := 4) (v := .ref b) (C := "WindowMachine$Registers") (T := T_R) (N := 1) hx hb ht zi_R hown hK hP 0 rfl rfl 0 (by decide) (ht _ zw_75) (fun _ h9 => h9) rfl d_R_read_1 ?_
  refine lv_iload_n hx hb d_R_read_4 rfl (lv_at hl 1 rfl) ?_
  refine lv_iload_n hx hb d_R_read_5 rfl (lv_at hl 2 rfl) ?_
  refine zc_i (w2 := fun _ => wR a b k st) (va_runS (As := [.int p0, .int p1]) (rest := [.ref b]) ⟨hx, hb, hml, hown, ht⟩ (mt_R_cellOf l D H.size p0 p1) (cwS 2 ht (zgS zw_557 zw_558 zw_5 zw_559) rfl rfl rfl kd_R_cellOf ⟨Nat.le_of_ble_eq_true rfl, Nat.le_of_ble_eq_true rfl⟩) ⟨zw_blind zw_tt, zw_go (hP.sub (ws' := []) [] rfl) (hD.sub (ws' := []) [] (by decide) rfl) (hK.sub (tys' := []) [] rfl) (fun _ _ _ => trivial)⟩ rfl rfl hl.1 rfl (lv_room (Nat.le_of_ble_eq_true rfl)) d_R_read_6 ⟨Nat.le_of_ble_eq_true rfl, Nat.le_of_ble_eq_true rfl⟩) hP hD hS hA [] [0, 1] [0, 1] rfl rfl (by decide) (by decide) (by decide) (fun _ => rfl) (fun r_1 _ H locs hw hP hD hS => ?_)
  subst hw
  refine va_iald hx hb hK hP 1 0 rfl rfl (cell_in hw9 hn9) d_R_read_9 ?_
  exact zl_i (u := ()) hx hb hr hlocks hS hP hD (by simp only [f_rread]) d_R_read_10
theorem d_R_write_0 : decode c_R_write 0 = .ok (.iload_n 2, 1) := by decide +kernel
theorem d_R_write_1 : decode c_R_write 1 = .ok (.ifCond .eq 14, 3) := by decide +kernel
theorem d_R_write_4 : decode c_R_write 4 = .ok (.aload_n 0, 1) := by decide +kernel
theorem d_R_write_5 : decode c_R_write 5 = .ok (.getfield 11, 3) := by decide +kernel
theorem d_R_write_8 : decode c_R_write 8 = .ok (.iload_n 1, 1) := by decide +kernel
theorem d_R_write_9 : decode c_R_write 9 = .ok (.iload_n 2, 1) := by decide +kernel
theorem d_R_write_10 : decode c_R_write 10 = .ok (.invokestatic 15, 3) := by decide +kernel
theorem d_R_write_13 : decode c_R_write 13 = .ok (.iload_n 3, 1) := by decide +kernel
theorem d_R_write_14 : decode c_R_write 14 = .ok (.iastore, 1) := by decide +kernel
theorem d_R_write_15 : decode c_R_write 15 = .ok (.return_, 1) := by decide +kernel
theorem kd_R_write : (y_R_write).cls = "WindowMachine$Registers" ∧ (y_R_write).cls ≠ "java/lang/invoke/MethodHandle" ∧ (y_R_write).cls ≠ "java/lang/invoke/VarHandle" ∧ (parseMethodDescriptor (y_R_write).desc).map (fun d => d.parameters.length) = some 3 := by decide +kernel
def f_rwrite (st : Nat → Int32) (p0 : Int32) (p1 : Int32) (p2 : Int32) : Nat → Int32 := (let u_1 := (if p1 = (0 : Int32) then st else upd st (f_cellOf p0 p1).toNatClampNeg p2); u_1)
set_option maxHeartbeats 4000000 in
set_option maxRecDepth 100000 in
theorem mt_R_write (l : Launch) (D : va_G) (a b : Nat) (k : ClassId) (sz : Nat) (st : Nat → Int32) (p0 : Int32) (p1 : Int32) (p2 : Int32) (hw9 : vp_in p0 4) (hn9 : vp_in p1 32) : Met l y_R_write w_R_write ({ frames := 1, cells := 0, slots := 0, locals := 21 }) (va_Pc [.ref a, .int p0, .int p1, .int p2] (zw_pre D vwCl [(k, .int)] sz (wR a b k st) (fun _ => True))) (va_Qv (fun (u : Nat → Int32) => u = f_rwrite st p0 p1 p2) (fun u t => zw_at D vwCl (va_A (wR a b k st) sz) ((fun (u : Nat → Int32) => wR a b k u) u) t) (va_A (wR a b k st) sz)) 0 0 (va_A (wR a b k st) sz) := by
  refine zm (Qf := fun A => va_Qv (fun (u : Nat → Int32) => u = f_rwrite st p0 p1 p2) (fun u t => zw_at D vwCl A ((fun (u : Nat → Int32) => wR a b k u) u) t) A) (Zf := fun _ _ => True) (cc := c_R_write) (nL := 4) (ret := none) (by decide) rfl (Nat.le_of_ble_eq_true rfl) ?_
  intro p e s m below meth c9 A H locs ls hx hb hml hown hts hr hlocks hA hK hP hD hS hZ hl
  have hl : lv_has ls 4 [(0, .ref a), (1, .int p0), (2, .int p1), (3, .int p2)] := hl
  have ht : ∀ w9 ∈ zT, w9.before _ s = true := fun w9 h9 => hts w9 (List.mem_cons_of_mem _ h9)
  refine lv_iload_n hx hb d_R_write_0 rfl (lv_at hl 2 rfl) ?_
  refine zcut (X := (Nat → Int32)) (G := fun v9 H locs ls => v9 = (if p1 = (0 : Int32) then st else upd st (f_cellOf p0 p1).toNatClampNeg p2) ∧ va_P D vwCl (wR a b k v9) H ∧ va_D A (wR a b k v9) ∧ va_S A s.heap H locs ∧ lv_has ls 4 [(0, .ref a), (1, .int p0), (2, .int p1), (3, .int p2)]) (fr := fun v9 ls => F0 m 15 ls []) (fun J_2 => ?_) (fun v9 H locs ls hG => ?_)
  · refine lv_if_eq (tgt := 15) hx hb d_R_write_1 (by decide) (fun c_3 => ?_) (fun c_3 => ?_)
    · exact J_2 st _ _ _ ⟨by simp only [if_pos c_3], hP, hD, hS, hl⟩
    refine lv_aload_n hx hb d_R_write_4 rfl (lv_at hl 0 rfl) ?_
    refine va_get (D := D) (ci := 4) (v := .ref b) (C := "WindowMachine$Registers") (T := T_R) (N := 1) hx hb ht zi_R hown hK hP 0 rfl rfl 0 (by decide) (ht _ zw_75) (fun _ h9 => h9) rfl d_R_write_5 ?_
    refine lv_iload_n hx hb d_R_write_8 rfl (lv_at hl 1 rfl) ?_
    refine lv_iload_n hx hb d_R_write_9 rfl (lv_at hl 2 rfl) ?_
    refine zc_i (w2 := fun _ => wR a b k st) (va_runS (As := [.int p0, .int p1]) (rest := [.ref b]) ⟨hx, hb, hml, hown, ht⟩ (mt_R_cellOf l D H.size p0 p1) (cwS 2 ht (zgS zw_557 zw_558 zw_5 zw_559) rfl rfl rfl kd_R_cellOf ⟨Nat.le_of_ble_eq_true rfl, Nat.le_of_ble_eq_true rfl⟩) ⟨zw_blind zw_tt, zw_go (hP.sub (ws' := []) [] rfl) (hD.sub (ws' := []) [] (by decide) rfl) (hK.sub (tys' := []) [] rfl) (fun _ _ _ => trivial)⟩ rfl rfl hl.1 rfl (lv_room (Nat.le_of_ble_eq_true rfl)) d_R_write_10 ⟨Nat.le_of_ble_eq_true rfl, Nat.le_of_ble_eq_true rfl⟩) hP hD hS hA [] [0, 1] [0, 1] rfl rfl (by decide) (by decide) (by decide) (fun _ => rfl) (fun r_4 _ H locs hw hP hD hS => ?_)
    subst hw
    refine lv_iload_n hx hb d_R_write_13 rfl (lv_at hl 3 rfl) ?_
    refine va_iast hx hb hK hP hD hS 1 0 rfl rfl (cell_in hw9 hn9) d_R_write_14 (fun H locs hP hD hS => ?_)
    have hP : va_P D vwCl (wR a b k (upd st (f_cellOf p0 p1).toNatClampNeg p2)) H := hP
    have hD : va_D A (wR a b k (upd st (f_cellOf p0 p1).toNatClampNeg p2)) := hD
    exact J_2 (upd st (f_cellOf p0 p1).toNatClampNeg p2) _ _ _ ⟨by simp only [if_neg c_3], hP, hD, hS, hl⟩
  obtain ⟨u_1, rfl⟩ : ∃ z, z = v9 := ⟨_, rfl⟩
  obtain ⟨eu_1, hP, hD, hS, hl⟩ := hG
  exact zl_v (u := u_1) hx hb hr hlocks hS hP hD (by subst eu_1; simp only [f_rwrite]) d_R_write_15
theorem d_R_clear_0 : decode c_R_clear 0 = .ok (.iconst 0, 1) := by decide +kernel
theorem d_R_clear_1 : decode c_R_clear 1 = .ok (.istore_n 1, 1) := by decide +kernel
theorem d_R_clear_2 : decode c_R_clear 2 = .ok (.iload_n 1, 1) := by decide +kernel
theorem d_R_clear_3 : decode c_R_clear 3 = .ok (.aload_n 0, 1) := by decide +kernel
theorem d_R_clear_4 : decode c_R_clear 4 = .ok (.getfield 11, 3) := by decide +kernel
theorem d_R_clear_7 : decode c_R_clear 7 = .ok (.arraylength, 1) := by decide +kernel
theorem d_R_clear_8 : decode c_R_clear 8 = .ok (.if_icmp .ge 16, 3) := by decide +kernel
theorem d_R_clear_11 : decode c_R_clear 11 = .ok (.aload_n 0, 1) := by decide +kernel
theorem d_R_clear_12 : decode c_R_clear 12 = .ok (.getfield 11, 3) := by decide +kernel
theorem d_R_clear_15 : decode c_R_clear 15 = .ok (.iload_n 1, 1) := by decide +kernel
theorem d_R_clear_16 : decode c_R_clear 16 = .ok (.iconst 0, 1) := by decide +kernel
theorem d_R_clear_17 : decode c_R_clear 17 = .ok (.iastore, 1) := by decide +kernel
theorem d_R_clear_18 : decode c_R_clear 18 = .ok (.iinc 1 1, 3) := by decide +kernel
theorem d_R_clear_21 : decode c_R_clear 21 = .ok (.goto (-19), 3) := by decide +kernel
theorem d_R_clear_24 : decode c_R_clear 24 = .ok (.return_, 1) := by decide +kernel
theorem kd_R_clear : (y_R_clear).cls = "WindowMachine$Registers" ∧ (y_R_clear).cls ≠ "java/lang/invoke/MethodHandle" ∧ (y_R_clear).cls ≠ "java/lang/invoke/VarHandle" ∧ (parseMethodDescriptor (y_R_clear).desc).map (fun d => d.parameters.length) = some 0 := by decide +kernel
def fl_R_clear_2 (st : Nat → Int32) : Nat → Nat → (Nat → Int32) → Nat → Int32
  | 0, _, u_2 => u_2
  | n9 + 1, i_1, u_2 => (if (72 : Int32) ≤ (nI i_1) then u_2 else fl_R_clear_2 st n9 (i_1 + 1) (upd u_2 (nI i_1).toNatClampNeg (0 : Int32)))
def f_clear (st : Nat → Int32) : Nat → Int32 := fl_R_clear_2 st 73 0 st
set_option maxHeartbeats 4000000 in
set_option maxRecDepth 100000 in
theorem mt_R_clear (l : Launch) (D : va_G) (a b : Nat) (k : ClassId) (sz : Nat) (st : Nat → Int32) : Met l y_R_clear w_R_clear ({ frames := 0, cells := 0, slots := 0, locals := 0 }) (va_Pc [.ref a] (zw_pre D vwCl [(k, .int)] sz (wR a b k st) (fun _ => True))) (va_Qv (fun (u : Nat → Int32) => u = f_clear st) (fun u t => zw_at D vwCl (va_A (wR a b k st) sz) ((fun (u : Nat → Int32) => wR a b k u) u) t) (va_A (wR a b k st) sz)) 0 0 (va_A (wR a b k st) sz) := by
  refine zm (Qf := fun A => va_Qv (fun (u : Nat → Int32) => u = f_clear st) (fun u t => zw_at D vwCl A ((fun (u : Nat → Int32) => wR a b k u) u) t) A) (Zf := fun _ _ => True) (cc := c_R_clear) (nL := 2) (ret := none) (by decide) rfl (Nat.le_of_ble_eq_true rfl) ?_
  intro p e s m below meth c9 A H locs ls hx hb hml hown hts hr hlocks hA hK hP hD hS hZ hl
  have hl : lv_has ls 2 [(0, .ref a)] := hl
  have ht : ∀ w9 ∈ zT, w9.before _ s = true := fun w9 h9 => hts w9 (List.mem_cons_of_mem _ h9)
  refine lv_iconst (v := (0 : Int32)) hx hb d_R_clear_0 (by decide) ?_
  refine lv_istore_n (lv' := [(1, .int (0 : Int32)), (0, .ref a)]) hx hb d_R_clear_1 rfl hl (by decide) rfl (fun ls hl => ?_)
  refine zloop (X := Nat × (Nat → Int32)) (G := fun n9 v9 H locs ls => f_clear st = fl_R_clear_2 st n9 v9.1 v9.2 ∧ (v9.1 + n9 = 73 ∧ v9.1 ≤ 72) ∧ va_P D vwCl (wR a b k v9.2) H ∧ va_D A (wR a b k v9.2) ∧ va_S A s.heap H locs ∧ lv_has ls 2 [(0, .ref a), (1, .int (nI v9.1))]) (fr := fun v9 ls => F0 m 2 ls []) (n := 73) (v := (0, st)) (fun n9 ih v9 H locs ls hG => ?_) (fun v9 H locs ls hG => ?_) ⟨(by simp only [f_clear]), (by dsimp only; omega), hP, hD, hS, (lv_sub hl [1, 0] rfl)⟩
  · obtain ⟨i_1, u_2⟩ := v9
    obtain ⟨hF_3, hI, hP, hD, hS, hl⟩ := hG
    dsimp only at hF_3 hI hP hD hl
    refine lv_iload_n hx hb d_R_clear_2 rfl (lv_at hl 1 rfl) ?_
    refine lv_aload_n hx hb d_R_clear_3 rfl (lv_at hl 0 rfl) ?_
    refine va_get (D := D) (ci := 4) (v := .ref b) (C := "WindowMachine$Registers") (T := T_R) (N := 1) hx hb ht zi_R hown hK hP 0 rfl rfl 0 (by decide) (ht _ zw_75) (fun _ h9 => h9) rfl d_R_clear_4 ?_
    refine va_alen (v := (72 : Int32)) hx hb hK hP 1 0 rfl (ty := .int) rfl rfl d_R_clear_7 ?_
    refine lv_icmp_ge (tgt := 24) hx hb d_R_clear_8 (by decide) (fun c_4 => ?_) (fun c_4 => ?_)
    · exact zl_v (u := u_2) hx hb hr hlocks hS hP hD (by rw [hF_3]; simp only [fl_R_clear_2, if_pos c_4]) d_R_clear_24
    refine lv_aload_n hx hb d_R_clear_11 rfl (lv_at hl 0 rfl) ?_
    refine va_get (D := D) (ci := 4) (v := .ref b) (C := "WindowMachine$Registers") (T := T_R) (N := 1) hx hb ht zi_R hown hK hP 0 rfl rfl 0 (by decide) (ht _ zw_75) (fun _ h9 => h9) rfl d_R_clear_12 ?_
    refine lv_iload_n hx hb d_R_clear_15 rfl (lv_at hl 1 rfl) ?_
    refine lv_iconst (v := (0 : Int32)) hx hb d_R_clear_16 (by decide) ?_
    refine va_iast hx hb hK hP hD hS 1 0 rfl rfl (vp_in_nI (znlt (N := 72) (by omega) c_4) (by decide)) d_R_clear_17 (fun H locs hP hD hS => ?_)
    have hP : va_P D vwCl (wR a b k (upd u_2 (nI i_1).toNatClampNeg (0 : Int32))) H := hP
    have hD : va_D A (wR a b k (upd u_2 (nI i_1).toNatClampNeg (0 : Int32))) := hD
    refine lv_iinc (v := (nI i_1) + (1 : Int32)) (lv' := [(1, .int ((nI i_1) + (1 : Int32))), (0, .ref a)]) hx hb d_R_clear_18 hl (k := 1) rfl rfl (by decide) rfl (fun ls hl => ?_)
    refine lv_goto (tgt := 2) hx hb d_R_clear_21 (by decide) ?_
    have hl : lv_has ls 2 [(0, .ref a), (1, .int (nI (i_1 + 1)))] := by rw [← nI_1 i_1]; exact (lv_sub hl [1, 0] rfl)
    exact ih (i_1 + 1, upd u_2 (nI i_1).toNatClampNeg (0 : Int32)) _ _ _ ⟨by rw [hF_3]; simp only [fl_R_clear_2, if_neg c_4], ⟨by omega, znlt (N := 72) (by omega) c_4⟩, hP, hD, hS, hl⟩
  · obtain ⟨i_1, u_2⟩ := v9
    obtain ⟨-, hI, -⟩ := hG
    dsimp only at hI
    exact (by omega)
