theorem tk_in {a p : Int32} {k n : Nat} (hm : 0 ≤ a.toInt ∧ 0 ≤ p.toInt ∧ p.toInt ≤ 8 ∧ a.toInt + p.toInt ≤ 1024) (hI : k + (n + 1) = 10 ∧ (k : Int) ≤ p.toInt) (c : ¬ p ≤ nI k) : vp_in (a + nI k) 1024 := by
  have q := ap_lt (by omega) c
  have e : (a + nI k).toInt = a.toInt + k := by
    rw [Int32.toInt_add, nI_toInt (by omega), Int.bmod_eq_of_le (by omega) (by omega)]
  exact vp_in_iff.mpr ⟨by omega, by omega⟩
theorem tk_back {a p : Int32} {k n : Nat} (hm : 0 ≤ a.toInt ∧ 0 ≤ p.toInt ∧ p.toInt ≤ 8 ∧ a.toInt + p.toInt ≤ 1024) (hI : k + (n + 1) = 10 ∧ (k : Int) ≤ p.toInt) (c : ¬ p ≤ nI k) : k + 1 + n = 10 ∧ ((k + 1 : Nat) : Int) ≤ p.toInt := by
  have q := ap_lt (by omega) c
  omega
theorem un_back {n : Nat} {x : Int32} (h : x.toInt + 2 = ((n + 1 : Nat) : Int) ∧ -1 ≤ x.toInt ∧ x.toInt ≤ 63) (c : ¬ x < (0 : Int32)) : (x + (-1 : Int32)).toInt + 2 = (n : Int) ∧ -1 ≤ (x + (-1 : Int32)).toInt ∧ (x + (-1 : Int32)).toInt ≤ 63 := by
  have h0 : ¬ x.toInt < 0 := fun q => c (Int32.lt_iff_toInt_lt.mpr q)
  rw [dec_toInt (by omega) (by omega)]
  omega
theorem d_D_take_0 : decode c_D_take 0 = .ok (.iconst 0, 1) := by decide +kernel
theorem d_D_take_1 : decode c_D_take 1 = .ok (.istore_n 3, 1) := by decide +kernel
theorem d_D_take_2 : decode c_D_take 2 = .ok (.iconst 0, 1) := by decide +kernel
theorem d_D_take_3 : decode c_D_take 3 = .ok (.istore 4, 2) := by decide +kernel
theorem d_D_take_5 : decode c_D_take 5 = .ok (.iload 4, 2) := by decide +kernel
theorem d_D_take_7 : decode c_D_take 7 = .ok (.iload_n 2, 1) := by decide +kernel
theorem d_D_take_8 : decode c_D_take 8 = .ok (.if_icmp .ge 24, 3) := by decide +kernel
theorem d_D_take_11 : decode c_D_take 11 = .ok (.iload_n 3, 1) := by decide +kernel
theorem d_D_take_12 : decode c_D_take 12 = .ok (.bipush 8, 2) := by decide +kernel
theorem d_D_take_14 : decode c_D_take 14 = .ok (.ishl, 1) := by decide +kernel
theorem d_D_take_15 : decode c_D_take 15 = .ok (.aload_n 0, 1) := by decide +kernel
theorem d_D_take_16 : decode c_D_take 16 = .ok (.getfield 209, 3) := by decide +kernel
theorem d_D_take_19 : decode c_D_take 19 = .ok (.iload_n 1, 1) := by decide +kernel
theorem d_D_take_20 : decode c_D_take 20 = .ok (.iload 4, 2) := by decide +kernel
theorem d_D_take_22 : decode c_D_take 22 = .ok (.iadd, 1) := by decide +kernel
theorem d_D_take_23 : decode c_D_take 23 = .ok (.iaload, 1) := by decide +kernel
theorem d_D_take_24 : decode c_D_take 24 = .ok (.ior, 1) := by decide +kernel
theorem d_D_take_25 : decode c_D_take 25 = .ok (.istore_n 3, 1) := by decide +kernel
theorem d_D_take_26 : decode c_D_take 26 = .ok (.iinc 4 1, 3) := by decide +kernel
theorem d_D_take_29 : decode c_D_take 29 = .ok (.goto (-24), 3) := by decide +kernel
theorem d_D_take_32 : decode c_D_take 32 = .ok (.iload_n 3, 1) := by decide +kernel
theorem d_D_take_33 : decode c_D_take 33 = .ok (.ireturn, 1) := by decide +kernel
theorem kd_D_take : (y_D_take).cls = "WindowMachineModel" ∧ (y_D_take).cls ≠ "java/lang/invoke/MethodHandle" ∧ (y_D_take).cls ≠ "java/lang/invoke/VarHandle" ∧ (parseMethodDescriptor (y_D_take).desc).map (fun d => d.parameters.length) = some 2 := by decide +kernel
def fl_D_take_5 (st : SD) (p0 : Int32) (p1 : Int32) : Nat → Int32 → Nat → Int32
  | 0, _, _ => 0
  | n9 + 1, x_1, i_2 => (if p1 ≤ (nI i_2) then x_1 else (let x_5 := (x_1 <<< ((8 : Int32) &&& 31)) ||| (st.2.2.1 (p0 + (nI i_2)).toNatClampNeg); fl_D_take_5 st p0 p1 n9 x_5 (i_2 + 1)))
def m_take (st : SD) (p0 : Int32) (p1 : Int32) : Int32 := fl_D_take_5 st p0 p1 10 (0 : Int32) 0
set_option maxHeartbeats 4000000 in
set_option maxRecDepth 100000 in
theorem mt_D_take (l : Launch) (D : va_G) (h : Nat → Nat) (c : Nat → ClassId) (sz : Nat) (st : SD) (p0 : Int32) (p1 : Int32) (hm : 0 ≤ p0.toInt ∧ 0 ≤ p1.toInt ∧ p1.toInt ≤ 8 ∧ p0.toInt + p1.toInt ≤ 1024) : Met l y_D_take w_D_take ({ frames := 0, cells := 0, slots := 0, locals := 0 }) (va_Pc [.ref (h 20), .int p0, .int p1] (zw_pre D vwCl [(c 21, .long), (c 22, .int), (c 23, .int), (c 24, .int), (c 25, .int), (c 26, .int), (c 27, .int), (c 28, .int)] sz (wD h c st) (fun _ => True))) (va_Qi (fun r (_ : Unit) => r = m_take st p0 p1) (fun u t => zw_at D vwCl (va_A (wD h c st) sz) ((fun (_ : Unit) => wD h c st) u) t) (va_A (wD h c st) sz)) 0 0 (va_A (wD h c st) sz) := by
  refine zm (Qf := fun A => va_Qi (fun r (_ : Unit) => r = m_take st p0 p1) (fun u t => zw_at D vwCl A ((fun (_ : Unit) => wD h c st) u) t) A) (Zf := fun _ _ => True) (cc := c_D_take) (nL := 5) (ret := (some .int)) (by decide) rfl (Nat.le_of_ble_eq_true rfl) ?_
  intro p e s m below meth c9 A H locs ls hx hb hml hown hts hr hlocks hA hK hP hD hS hZ hl
  have hl : lv_has ls 5 [(0, .ref (h 20)), (1, .int p0), (2, .int p1)] := hl
  have ht : ∀ w9 ∈ zT, w9.before _ s = true := fun w9 h9 => hts w9 (List.mem_cons_of_mem _ h9)
  refine lv_iconst (v := (0 : Int32)) hx hb d_D_take_0 (by decide) ?_
  refine lv_istore_n (lv' := [(3, .int (0 : Int32)), (0, .ref (h 20)), (1, .int p0), (2, .int p1)]) hx hb d_D_take_1 rfl hl (by decide) rfl (fun ls hl => ?_)
  refine lv_iconst (v := (0 : Int32)) hx hb d_D_take_2 (by decide) ?_
  refine lv_istore (lv' := [(4, .int (0 : Int32)), (3, .int (0 : Int32)), (0, .ref (h 20)), (1, .int p0), (2, .int p1)]) hx hb d_D_take_3 hl (by decide) rfl (fun ls hl => ?_)
  refine zloop (X := Int32 × Nat) (G := fun n9 v9 H locs ls => m_take st p0 p1 = fl_D_take_5 st p0 p1 n9 v9.1 v9.2 ∧ (v9.2 + n9 = 10 ∧ (v9.2 : Int) ≤ p1.toInt) ∧ va_P D vwCl (wD h c st) H ∧ va_D A (wD h c st) ∧ va_S A s.heap H locs ∧ lv_has ls 5 [(0, .ref (h 20)), (1, .int p0), (2, .int p1), (3, .int v9.1), (4, .int (nI v9.2))]) (fr := fun v9 ls => F0 m 5 ls []) (n := 10) (v := ((0 : Int32), 0)) (fun n9 ih v9 H locs ls hG => ?_) (fun v9 H locs ls hG => ?_) ⟨(by simp only [m_take]), (by dsimp only; omega), hP, hD, hS, (lv_sub hl [2, 3, 4, 1, 0] rfl)⟩
  · obtain ⟨x_1, i_2⟩ := v9
    obtain ⟨hF_3, hI, hP, hD, hS, hl⟩ := hG
    dsimp only at hF_3 hI hP hD hl
    refine lv_iload hx hb d_D_take_5 (lv_at hl 4 rfl) ?_
    refine lv_iload_n hx hb d_D_take_7 rfl (lv_at hl 2 rfl) ?_
    refine lv_icmp_ge (tgt := 32) hx hb d_D_take_8 (by decide) (fun c_4 => ?_) (fun c_4 => ?_)
    · refine lv_iload_n hx hb d_D_take_32 rfl (lv_at hl 3 rfl) ?_
      exact zl_i (u := ()) hx hb hr hlocks hS hP hD (by rw [hF_3]; simp only [fl_D_take_5, if_pos c_4]) d_D_take_33
    refine lv_iload_n hx hb d_D_take_11 rfl (lv_at hl 3 rfl) ?_
    refine lv_bipush (v := (8 : Int32)) hx hb d_D_take_12 (by decide) ?_
    refine lv_ishl hx hb d_D_take_14 ?_
    refine lv_aload_n hx hb d_D_take_15 rfl (lv_at hl 0 rfl) ?_
    refine va_get (D := D) (ci := 6) (v := .ref (h 25)) (C := "WindowMachineModel") (T := T_D) (N := 31) hx hb ht zi_D hown hK hP 0 rfl rfl 8 (by decide) (ht _ zw_862) (fun _ h9 => h9) rfl d_D_take_16 ?_
    refine lv_iload_n hx hb d_D_take_19 rfl (lv_at hl 1 rfl) ?_
    refine lv_iload hx hb d_D_take_20 (lv_at hl 4 rfl) ?_
    refine lv_iadd hx hb d_D_take_22 ?_
    refine va_iald hx hb hK hP 5 4 rfl rfl (tk_in hm hI c_4) d_D_take_23 ?_
    refine lv_ior hx hb d_D_take_24 ?_
    refine lv_topi (fun x_5 ex_5 => ?_)
    refine lv_istore_n (lv' := [(3, .int x_5), (0, .ref (h 20)), (1, .int p0), (2, .int p1), (4, .int (nI i_2))]) hx hb d_D_take_25 rfl hl (by decide) rfl (fun ls hl => ?_)
    refine lv_iinc (v := (nI i_2) + (1 : Int32)) (lv' := [(4, .int ((nI i_2) + (1 : Int32))), (3, .int x_5), (0, .ref (h 20)), (1, .int p0), (2, .int p1)]) hx hb d_D_take_26 hl (k := 4) rfl rfl (by decide) rfl (fun ls hl => ?_)
    refine lv_goto (tgt := 5) hx hb d_D_take_29 (by decide) ?_
    have hl : lv_has ls 5 [(0, .ref (h 20)), (1, .int p0), (2, .int p1), (3, .int x_5), (4, .int (nI (i_2 + 1)))] := by rw [← nI_1 i_2]; exact (lv_sub hl [2, 3, 4, 1, 0] rfl)
    exact ih (x_5, i_2 + 1) _ _ _ ⟨by rw [hF_3]; simp only [fl_D_take_5, ← ex_5, if_neg c_4], (tk_back hm hI c_4), hP, hD, hS, hl⟩
  · obtain ⟨x_1, i_2⟩ := v9
    obtain ⟨-, hI, -⟩ := hG
    dsimp only at hI
    exact (by omega)
theorem d_D_store_0 : decode c_D_store 0 = .ok (.iconst 0, 1) := by decide +kernel
theorem d_D_store_1 : decode c_D_store 1 = .ok (.istore 4, 2) := by decide +kernel
theorem d_D_store_3 : decode c_D_store 3 = .ok (.iload 4, 2) := by decide +kernel
theorem d_D_store_5 : decode c_D_store 5 = .ok (.iload_n 2, 1) := by decide +kernel
theorem d_D_store_6 : decode c_D_store 6 = .ok (.if_icmp .ge 33, 3) := by decide +kernel
theorem d_D_store_9 : decode c_D_store 9 = .ok (.aload_n 0, 1) := by decide +kernel
theorem d_D_store_10 : decode c_D_store 10 = .ok (.getfield 209, 3) := by decide +kernel
theorem d_D_store_13 : decode c_D_store 13 = .ok (.iload_n 1, 1) := by decide +kernel
theorem d_D_store_14 : decode c_D_store 14 = .ok (.iload 4, 2) := by decide +kernel
theorem d_D_store_16 : decode c_D_store 16 = .ok (.iadd, 1) := by decide +kernel
theorem d_D_store_17 : decode c_D_store 17 = .ok (.iload_n 3, 1) := by decide +kernel
theorem d_D_store_18 : decode c_D_store 18 = .ok (.bipush 8, 2) := by decide +kernel
theorem d_D_store_20 : decode c_D_store 20 = .ok (.iload_n 2, 1) := by decide +kernel
theorem d_D_store_21 : decode c_D_store 21 = .ok (.iconst 1, 1) := by decide +kernel
theorem d_D_store_22 : decode c_D_store 22 = .ok (.isub, 1) := by decide +kernel
theorem d_D_store_23 : decode c_D_store 23 = .ok (.iload 4, 2) := by decide +kernel
theorem d_D_store_25 : decode c_D_store 25 = .ok (.isub, 1) := by decide +kernel
theorem d_D_store_26 : decode c_D_store 26 = .ok (.imul, 1) := by decide +kernel
theorem d_D_store_27 : decode c_D_store 27 = .ok (.iushr, 1) := by decide +kernel
theorem d_D_store_28 : decode c_D_store 28 = .ok (.sipush 255, 3) := by decide +kernel
theorem d_D_store_31 : decode c_D_store 31 = .ok (.iand, 1) := by decide +kernel
theorem d_D_store_32 : decode c_D_store 32 = .ok (.iastore, 1) := by decide +kernel
theorem d_D_store_33 : decode c_D_store 33 = .ok (.iinc 4 1, 3) := by decide +kernel
theorem d_D_store_36 : decode c_D_store 36 = .ok (.goto (-33), 3) := by decide +kernel
theorem d_D_store_39 : decode c_D_store 39 = .ok (.return_, 1) := by decide +kernel
theorem kd_D_store : (y_D_store).cls = "WindowMachineModel" ∧ (y_D_store).cls ≠ "java/lang/invoke/MethodHandle" ∧ (y_D_store).cls ≠ "java/lang/invoke/VarHandle" ∧ (parseMethodDescriptor (y_D_store).desc).map (fun d => d.parameters.length) = some 3 := by decide +kernel
def fl_D_store_3 (st : SD) (p0 : Int32) (p1 : Int32) (p2 : Int32) : Nat → Nat → SD → SD
  | 0, _, u_2 => u_2
  | n9 + 1, i_1, u_2 => (if p1 ≤ (nI i_1) then u_2 else fl_D_store_3 st p0 p1 p2 n9 (i_1 + 1) (u_2.1, u_2.2.1, upd u_2.2.2.1 (p0 + (nI i_1)).toNatClampNeg ((zushr p2 ((8 : Int32) * ((p1 - (1 : Int32)) - (nI i_1)))) &&& (255 : Int32)), u_2.2.2.2.1, u_2.2.2.2.2.1, u_2.2.2.2.2.2))
def m_store (st : SD) (p0 : Int32) (p1 : Int32) (p2 : Int32) : SD := fl_D_store_3 st p0 p1 p2 10 0 st
set_option maxHeartbeats 4000000 in
set_option maxRecDepth 100000 in
theorem mt_D_store (l : Launch) (D : va_G) (h : Nat → Nat) (c : Nat → ClassId) (sz : Nat) (st : SD) (p0 : Int32) (p1 : Int32) (p2 : Int32) (hm : 0 ≤ p0.toInt ∧ 0 ≤ p1.toInt ∧ p1.toInt ≤ 8 ∧ p0.toInt + p1.toInt ≤ 1024) : Met l y_D_store w_D_store ({ frames := 0, cells := 0, slots := 0, locals := 0 }) (va_Pc [.ref (h 20), .int p0, .int p1, .int p2] (zw_pre D vwCl [(c 21, .long), (c 22, .int), (c 23, .int), (c 24, .int), (c 25, .int), (c 26, .int), (c 27, .int), (c 28, .int)] sz (wD h c st) (fun _ => True))) (va_Qv (fun (u : SD) => u = m_store st p0 p1 p2) (fun u t => zw_at D vwCl (va_A (wD h c st) sz) ((fun (u : SD) => wD h c u) u) t) (va_A (wD h c st) sz)) 0 0 (va_A (wD h c st) sz) := by
  refine zm (Qf := fun A => va_Qv (fun (u : SD) => u = m_store st p0 p1 p2) (fun u t => zw_at D vwCl A ((fun (u : SD) => wD h c u) u) t) A) (Zf := fun _ _ => True) (cc := c_D_store) (nL := 5) (ret := none) (by decide) rfl (Nat.le_of_ble_eq_true rfl) ?_
  intro p e s m below meth c9 A H locs ls hx hb hml hown hts hr hlocks hA hK hP hD hS hZ hl
  have hl : lv_has ls 5 [(0, .ref (h 20)), (1, .int p0), (2, .int p1), (3, .int p2)] := hl
  have ht : ∀ w9 ∈ zT, w9.before _ s = true := fun w9 h9 => hts w9 (List.mem_cons_of_mem _ h9)
  refine lv_iconst (v := (0 : Int32)) hx hb d_D_store_0 (by decide) ?_
  refine lv_istore (lv' := [(4, .int (0 : Int32)), (0, .ref (h 20)), (1, .int p0), (2, .int p1), (3, .int p2)]) hx hb d_D_store_1 hl (by decide) rfl (fun ls hl => ?_)
  refine zloop (X := Nat × SD) (G := fun n9 v9 H locs ls => m_store st p0 p1 p2 = fl_D_store_3 st p0 p1 p2 n9 v9.1 v9.2 ∧ (v9.1 + n9 = 10 ∧ (v9.1 : Int) ≤ p1.toInt) ∧ va_P D vwCl (wD h c v9.2) H ∧ va_D A (wD h c v9.2) ∧ va_S A s.heap H locs ∧ lv_has ls 5 [(0, .ref (h 20)), (1, .int p0), (2, .int p1), (3, .int p2), (4, .int (nI v9.1))]) (fr := fun v9 ls => F0 m 3 ls []) (n := 10) (v := (0, st)) (fun n9 ih v9 H locs ls hG => ?_) (fun v9 H locs ls hG => ?_) ⟨(by simp only [m_store]), (by dsimp only; omega), hP, hD, hS, (lv_sub hl [1, 2, 3, 4, 0] rfl)⟩
  · obtain ⟨i_1, u_2⟩ := v9
    obtain ⟨hF_3, hI, hP, hD, hS, hl⟩ := hG
    dsimp only at hF_3 hI hP hD hl
    refine lv_iload hx hb d_D_store_3 (lv_at hl 4 rfl) ?_
    refine lv_iload_n hx hb d_D_store_5 rfl (lv_at hl 2 rfl) ?_
    refine lv_icmp_ge (tgt := 39) hx hb d_D_store_6 (by decide) (fun c_4 => ?_) (fun c_4 => ?_)
    · exact zl_v (u := u_2) hx hb hr hlocks hS hP hD (by rw [hF_3]; simp only [fl_D_store_3, if_pos c_4]) d_D_store_39
    refine lv_aload_n hx hb d_D_store_9 rfl (lv_at hl 0 rfl) ?_
    refine va_get (D := D) (ci := 6) (v := .ref (h 25)) (C := "WindowMachineModel") (T := T_D) (N := 31) hx hb ht zi_D hown hK hP 0 rfl rfl 8 (by decide) (ht _ zw_862) (fun _ h9 => h9) rfl d_D_store_10 ?_
    refine lv_iload_n hx hb d_D_store_13 rfl (lv_at hl 1 rfl) ?_
    refine lv_iload hx hb d_D_store_14 (lv_at hl 4 rfl) ?_
    refine lv_iadd hx hb d_D_store_16 ?_
    refine lv_iload_n hx hb d_D_store_17 rfl (lv_at hl 3 rfl) ?_
    refine lv_bipush (v := (8 : Int32)) hx hb d_D_store_18 (by decide) ?_
    refine lv_iload_n hx hb d_D_store_20 rfl (lv_at hl 2 rfl) ?_
    refine lv_iconst (v := (1 : Int32)) hx hb d_D_store_21 (by decide) ?_
    refine lv_isub hx hb d_D_store_22 ?_
    refine lv_iload hx hb d_D_store_23 (lv_at hl 4 rfl) ?_
    refine lv_isub hx hb d_D_store_25 ?_
    refine lv_imul hx hb d_D_store_26 ?_
    refine lv_iushr (v := zushr p2 ((8 : Int32) * ((p1 - (1 : Int32)) - (nI i_1)))) hx hb d_D_store_27 rfl ?_
    refine lv_sipush (v := (255 : Int32)) hx hb d_D_store_28 (by decide) ?_
    refine lv_iand hx hb d_D_store_31 ?_
    refine va_iast hx hb hK hP hD hS 5 4 rfl rfl (tk_in hm hI c_4) d_D_store_32 (fun H locs hP hD hS => ?_)
    have hP : va_P D vwCl (wD h c (u_2.1, u_2.2.1, upd u_2.2.2.1 (p0 + (nI i_1)).toNatClampNeg ((zushr p2 ((8 : Int32) * ((p1 - (1 : Int32)) - (nI i_1)))) &&& (255 : Int32)), u_2.2.2.2.1, u_2.2.2.2.2.1, u_2.2.2.2.2.2)) H := hP
    have hD : va_D A (wD h c (u_2.1, u_2.2.1, upd u_2.2.2.1 (p0 + (nI i_1)).toNatClampNeg ((zushr p2 ((8 : Int32) * ((p1 - (1 : Int32)) - (nI i_1)))) &&& (255 : Int32)), u_2.2.2.2.1, u_2.2.2.2.2.1, u_2.2.2.2.2.2)) := hD
    refine lv_iinc (v := (nI i_1) + (1 : Int32)) (lv' := [(4, .int ((nI i_1) + (1 : Int32))), (0, .ref (h 20)), (1, .int p0), (2, .int p1), (3, .int p2)]) hx hb d_D_store_33 hl (k := 4) rfl rfl (by decide) rfl (fun ls hl => ?_)
    refine lv_goto (tgt := 3) hx hb d_D_store_36 (by decide) ?_
    have hl : lv_has ls 5 [(0, .ref (h 20)), (1, .int p0), (2, .int p1), (3, .int p2), (4, .int (nI (i_1 + 1)))] := by rw [← nI_1 i_1]; exact (lv_sub hl [1, 2, 3, 4, 0] rfl)
    exact ih (i_1 + 1, (u_2.1, u_2.2.1, upd u_2.2.2.1 (p0 + (nI i_1)).toNatClampNeg ((zushr p2 ((8 : Int32) * ((p1 - (1 : Int32)) - (nI i_1)))) &&& (255 : Int32)), u_2.2.2.2.1, u_2.2.2.2.2.1, u_2.2.2.2.2.2)) _ _ _ ⟨by rw [hF_3]; simp only [fl_D_store_3, if_neg c_4], (tk_back hm hI c_4), hP, hD, hS, hl⟩
  · obtain ⟨i_1, u_2⟩ := v9
    obtain ⟨-, hI, -⟩ := hG
    dsimp only at hI
    exact (by omega)
theorem d_D_unsigned_0 : decode c_D_unsigned 0 = .ok (.lconst 0, 1) := by decide +kernel
theorem d_D_unsigned_1 : decode c_D_unsigned 1 = .ok (.lstore 4, 2) := by decide +kernel
theorem d_D_unsigned_3 : decode c_D_unsigned 3 = .ok (.lconst 0, 1) := by decide +kernel
theorem d_D_unsigned_4 : decode c_D_unsigned 4 = .ok (.lstore 6, 2) := by decide +kernel
theorem d_D_unsigned_6 : decode c_D_unsigned 6 = .ok (.iconst 0, 1) := by decide +kernel
theorem d_D_unsigned_7 : decode c_D_unsigned 7 = .ok (.istore 8, 2) := by decide +kernel
theorem d_D_unsigned_9 : decode c_D_unsigned 9 = .ok (.bipush 63, 2) := by decide +kernel
theorem d_D_unsigned_11 : decode c_D_unsigned 11 = .ok (.istore 9, 2) := by decide +kernel
theorem d_D_unsigned_13 : decode c_D_unsigned 13 = .ok (.iload 9, 2) := by decide +kernel
theorem d_D_unsigned_15 : decode c_D_unsigned 15 = .ok (.ifCond .lt 66, 3) := by decide +kernel
theorem d_D_unsigned_18 : decode c_D_unsigned 18 = .ok (.lload 4, 2) := by decide +kernel
theorem d_D_unsigned_20 : decode c_D_unsigned 20 = .ok (.iconst 1, 1) := by decide +kernel
theorem d_D_unsigned_21 : decode c_D_unsigned 21 = .ok (.lshl, 1) := by decide +kernel
theorem d_D_unsigned_22 : decode c_D_unsigned 22 = .ok (.lload_n 0, 1) := by decide +kernel
theorem d_D_unsigned_23 : decode c_D_unsigned 23 = .ok (.iload 9, 2) := by decide +kernel
theorem d_D_unsigned_25 : decode c_D_unsigned 25 = .ok (.lushr, 1) := by decide +kernel
theorem d_D_unsigned_26 : decode c_D_unsigned 26 = .ok (.lconst 1, 1) := by decide +kernel
theorem d_D_unsigned_27 : decode c_D_unsigned 27 = .ok (.land, 1) := by decide +kernel
theorem d_D_unsigned_28 : decode c_D_unsigned 28 = .ok (.lor, 1) := by decide +kernel
theorem d_D_unsigned_29 : decode c_D_unsigned 29 = .ok (.lstore 4, 2) := by decide +kernel
theorem d_D_unsigned_31 : decode c_D_unsigned 31 = .ok (.iload 8, 2) := by decide +kernel
theorem d_D_unsigned_33 : decode c_D_unsigned 33 = .ok (.lload 6, 2) := by decide +kernel
theorem d_D_unsigned_35 : decode c_D_unsigned 35 = .ok (.ldc2_w 347, 3) := by decide +kernel
theorem d_D_unsigned_38 : decode c_D_unsigned 38 = .ok (.lcmp, 1) := by decide +kernel
theorem d_D_unsigned_39 : decode c_D_unsigned 39 = .ok (.ifCond .lt 7, 3) := by decide +kernel
theorem d_D_unsigned_42 : decode c_D_unsigned 42 = .ok (.iconst 1, 1) := by decide +kernel
theorem d_D_unsigned_43 : decode c_D_unsigned 43 = .ok (.goto 4, 3) := by decide +kernel
theorem d_D_unsigned_46 : decode c_D_unsigned 46 = .ok (.iconst 0, 1) := by decide +kernel
theorem d_D_unsigned_47 : decode c_D_unsigned 47 = .ok (.ior, 1) := by decide +kernel
theorem d_D_unsigned_48 : decode c_D_unsigned 48 = .ok (.istore 8, 2) := by decide +kernel
theorem d_D_unsigned_50 : decode c_D_unsigned 50 = .ok (.lload 6, 2) := by decide +kernel
theorem d_D_unsigned_52 : decode c_D_unsigned 52 = .ok (.iconst 1, 1) := by decide +kernel
theorem d_D_unsigned_53 : decode c_D_unsigned 53 = .ok (.lshl, 1) := by decide +kernel
theorem d_D_unsigned_54 : decode c_D_unsigned 54 = .ok (.lstore 6, 2) := by decide +kernel
theorem d_D_unsigned_56 : decode c_D_unsigned 56 = .ok (.lload 4, 2) := by decide +kernel
theorem d_D_unsigned_58 : decode c_D_unsigned 58 = .ok (.lload_n 2, 1) := by decide +kernel
theorem d_D_unsigned_59 : decode c_D_unsigned 59 = .ok (.lcmp, 1) := by decide +kernel
theorem d_D_unsigned_60 : decode c_D_unsigned 60 = .ok (.ifCond .lt 15, 3) := by decide +kernel
theorem d_D_unsigned_63 : decode c_D_unsigned 63 = .ok (.lload 4, 2) := by decide +kernel
theorem d_D_unsigned_65 : decode c_D_unsigned 65 = .ok (.lload_n 2, 1) := by decide +kernel
theorem d_D_unsigned_66 : decode c_D_unsigned 66 = .ok (.lsub, 1) := by decide +kernel
theorem d_D_unsigned_67 : decode c_D_unsigned 67 = .ok (.lstore 4, 2) := by decide +kernel
theorem d_D_unsigned_69 : decode c_D_unsigned 69 = .ok (.lload 6, 2) := by decide +kernel
theorem d_D_unsigned_71 : decode c_D_unsigned 71 = .ok (.lconst 1, 1) := by decide +kernel
theorem d_D_unsigned_72 : decode c_D_unsigned 72 = .ok (.ladd, 1) := by decide +kernel
theorem d_D_unsigned_73 : decode c_D_unsigned 73 = .ok (.lstore 6, 2) := by decide +kernel
theorem d_D_unsigned_75 : decode c_D_unsigned 75 = .ok (.iinc 9 (-1), 3) := by decide +kernel
theorem d_D_unsigned_78 : decode c_D_unsigned 78 = .ok (.goto (-65), 3) := by decide +kernel
theorem d_D_unsigned_81 : decode c_D_unsigned 81 = .ok (.iload 8, 2) := by decide +kernel
theorem d_D_unsigned_83 : decode c_D_unsigned 83 = .ok (.ifCond .eq 9, 3) := by decide +kernel
theorem d_D_unsigned_86 : decode c_D_unsigned 86 = .ok (.ldc2_w 349, 3) := by decide +kernel
theorem d_D_unsigned_89 : decode c_D_unsigned 89 = .ok (.goto 5, 3) := by decide +kernel
theorem d_D_unsigned_92 : decode c_D_unsigned 92 = .ok (.lload 6, 2) := by decide +kernel
theorem d_D_unsigned_94 : decode c_D_unsigned 94 = .ok (.lreturn, 1) := by decide +kernel
theorem kd_D_unsigned : (y_D_unsigned).cls = "WindowMachineModel" ∧ (y_D_unsigned).cls ≠ "java/lang/invoke/MethodHandle" ∧ (y_D_unsigned).cls ≠ "java/lang/invoke/VarHandle" ∧ (parseMethodDescriptor (y_D_unsigned).desc).map (fun d => d.parameters.length) = some 2 := by decide +kernel
def fl_D_unsigned_13 (p0 : Int64) (p1 : Int64) : Nat → Int64 → Int64 → Int32 → Int32 → Int64
  | 0, _, _, _, _ => 0
  | n9 + 1, x_1, x_2, x_3, x_4 => (if x_4 < (0 : Int32) then (if x_3 = (0 : Int32) then x_2 else (4611686018427387904 : Int64)) else (let x_8 := (zlshl x_1 (1 : Int32)) ||| ((zlushr p0 x_4) &&& (1 : Int64)); (let x_9 := (if (lg_cmp x_2 (2305843009213693952 : Int64)) < (0 : Int32) then (0 : Int32) else (1 : Int32)); (let x_12 := (if (lg_cmp x_8 p1) < (0 : Int32) then x_8 else x_8 - p1); (let x_13 := (if (lg_cmp x_8 p1) < (0 : Int32) then zlshl x_2 (1 : Int32) else (zlshl x_2 (1 : Int32)) + (1 : Int64)); fl_D_unsigned_13 p0 p1 n9 x_12 x_13 (x_3 ||| x_9) (x_4 + (-1 : Int32)))))))
def m_unsigned (p0 : Int64) (p1 : Int64) : Int64 := fl_D_unsigned_13 p0 p1 65 (0 : Int64) (0 : Int64) (0 : Int32) (63 : Int32)
set_option maxHeartbeats 4000000 in
set_option maxRecDepth 100000 in
theorem mt_D_unsigned (l : Launch) (D : va_G) (sz : Nat) (p0 : Int64) (p1 : Int64) : Met l y_D_unsigned w_D_unsigned ({ frames := 0, cells := 0, slots := 0, locals := 0 }) (va_Pc [.long p0, .long p1] (zw_pre D vwCl [] sz ([]) (fun _ => True))) (va_Ql (fun r (_ : Unit) => r = m_unsigned p0 p1) (fun u t => zw_at D vwCl (va_A ([]) sz) ((fun (_ : Unit) => []) u) t) (va_A ([]) sz)) 0 0 (va_A ([]) sz) := by
  refine zm (Qf := fun A => va_Ql (fun r (_ : Unit) => r = m_unsigned p0 p1) (fun u t => zw_at D vwCl A ((fun (_ : Unit) => []) u) t) A) (Zf := fun _ _ => True) (cc := c_D_unsigned) (nL := 10) (ret := (some .long)) (by decide) rfl (Nat.le_of_ble_eq_true rfl) ?_
  intro p e s m below meth c9 A H locs ls hx hb hml hown hts hr hlocks hA hK hP hD hS hZ hl
  have hl : lv_has ls 10 [(0, .long p0), (2, .long p1)] := hl
  have ht : ∀ w9 ∈ zT, w9.before _ s = true := fun w9 h9 => hts w9 (List.mem_cons_of_mem _ h9)
  refine lv_lconst (v := (0 : Int64)) hx hb d_D_unsigned_0 (by decide) ?_
  refine lv_lstore (lv' := [(4, .long (0 : Int64)), (0, .long p0), (2, .long p1)]) hx hb d_D_unsigned_1 hl (by decide) rfl (fun ls hl => ?_)
  refine lv_lconst (v := (0 : Int64)) hx hb d_D_unsigned_3 (by decide) ?_
  refine lv_lstore (lv' := [(6, .long (0 : Int64)), (4, .long (0 : Int64)), (0, .long p0), (2, .long p1)]) hx hb d_D_unsigned_4 hl (by decide) rfl (fun ls hl => ?_)
  refine lv_iconst (v := (0 : Int32)) hx hb d_D_unsigned_6 (by decide) ?_
  refine lv_istore (lv' := [(8, .int (0 : Int32)), (6, .long (0 : Int64)), (4, .long (0 : Int64)), (0, .long p0), (2, .long p1)]) hx hb d_D_unsigned_7 hl (by decide) rfl (fun ls hl => ?_)
  refine lv_bipush (v := (63 : Int32)) hx hb d_D_unsigned_9 (by decide) ?_
  refine lv_istore (lv' := [(9, .int (63 : Int32)), (8, .int (0 : Int32)), (6, .long (0 : Int64)), (4, .long (0 : Int64)), (0, .long p0), (2, .long p1)]) hx hb d_D_unsigned_11 hl (by decide) rfl (fun ls hl => ?_)
  refine zloop (X := Int64 × Int64 × Int32 × Int32) (G := fun n9 v9 H locs ls => m_unsigned p0 p1 = fl_D_unsigned_13 p0 p1 n9 v9.1 v9.2.1 v9.2.2.1 v9.2.2.2 ∧ ((v9.2.2.2).toInt + 2 = (n9 : Int) ∧ -1 ≤ (v9.2.2.2).toInt ∧ (v9.2.2.2).toInt ≤ 63) ∧ va_P D vwCl ([]) H ∧ va_D A ([]) ∧ va_S A s.heap H locs ∧ lv_has ls 10 [(0, .long p0), (2, .long p1), (4, .long v9.1), (6, .long v9.2.1), (8, .int v9.2.2.1), (9, .int v9.2.2.2)]) (fr := fun v9 ls => F0 m 13 ls []) (n := 65) (v := ((0 : Int64), (0 : Int64), (0 : Int32), (63 : Int32))) (fun n9 ih v9 H locs ls hG => ?_) (fun v9 H locs ls hG => ?_) ⟨(by simp only [m_unsigned]), (by dsimp only; decide), hP, hD, hS, (lv_sub hl [4, 5, 3, 2, 1, 0] rfl)⟩
  · obtain ⟨x_1, x_2, x_3, x_4⟩ := v9
    obtain ⟨hF_5, hI, hP, hD, hS, hl⟩ := hG
    dsimp only at hF_5 hI hP hD hl
    refine lv_iload hx hb d_D_unsigned_13 (lv_at hl 5 rfl) ?_
    refine lv_if_lt (tgt := 81) hx hb d_D_unsigned_15 (by decide) (fun c_6 => ?_) (fun c_6 => ?_)
    · refine lv_iload hx hb d_D_unsigned_81 (lv_at hl 4 rfl) ?_
      refine lv_if_eq (tgt := 92) hx hb d_D_unsigned_83 (by decide) (fun c_7 => ?_) (fun c_7 => ?_)
      · refine lv_lload hx hb d_D_unsigned_92 (lv_at hl 3 rfl) ?_
        exact zl_l (u := ()) hx hb hr hlocks hS hP hD (by rw [hF_5]; simp only [fl_D_unsigned_13, if_pos c_6, if_pos c_7]) d_D_unsigned_94
      refine lv_ldc2 (v := (4611686018427387904 : Int64)) hx hb hown (ht _ zw_1061) d_D_unsigned_86 ?_
      refine lv_goto (tgt := 94) hx hb d_D_unsigned_89 (by decide) ?_
      exact zl_l (u := ()) hx hb hr hlocks hS hP hD (by rw [hF_5]; simp only [fl_D_unsigned_13, if_pos c_6, if_neg c_7]) d_D_unsigned_94
    refine lv_lload hx hb d_D_unsigned_18 (lv_at hl 2 rfl) ?_
    refine lv_iconst (v := (1 : Int32)) hx hb d_D_unsigned_20 (by decide) ?_
    refine lv_lshl (v := zlshl x_1 (1 : Int32)) hx hb d_D_unsigned_21 rfl ?_
    refine lv_lload_n hx hb d_D_unsigned_22 rfl (lv_at hl 0 rfl) ?_
    refine lv_iload hx hb d_D_unsigned_23 (lv_at hl 5 rfl) ?_
    refine lv_lushr (v := zlushr p0 x_4) hx hb d_D_unsigned_25 rfl ?_
    refine lv_lconst (v := (1 : Int64)) hx hb d_D_unsigned_26 (by decide) ?_
    refine lv_land hx hb d_D_unsigned_27 ?_
    refine lv_lor hx hb d_D_unsigned_28 ?_
    refine lv_topl (fun x_8 ex_8 => ?_)
    refine lv_lstore (lv' := [(4, .long x_8), (0, .long p0), (2, .long p1), (6, .long x_2), (8, .int x_3), (9, .int x_4)]) hx hb d_D_unsigned_29 hl (by decide) rfl (fun ls hl => ?_)
    refine lv_iload hx hb d_D_unsigned_31 (lv_at hl 4 rfl) ?_
    refine lv_lload hx hb d_D_unsigned_33 (lv_at hl 3 rfl) ?_
    refine lv_ldc2 (v := (2305843009213693952 : Int64)) hx hb hown (ht _ zw_1060) d_D_unsigned_35 ?_
    refine W.lcmp hx hb d_D_unsigned_38 ?_
    refine zcut (X := Int32) (G := fun v9 H locs ls => v9 = (if (lg_cmp x_2 (2305843009213693952 : Int64)) < (0 : Int32) then (0 : Int32) else (1 : Int32)) ∧ va_P D vwCl ([]) H ∧ va_D A ([]) ∧ va_S A s.heap H locs ∧ lv_has ls 10 [(0, .long p0), (2, .long p1), (4, .long x_8), (6, .long x_2), (8, .int x_3), (9, .int x_4)]) (fr := fun v9 ls => F0 m 47 ls [.int v9, .int x_3]) (fun J_10 => ?_) (fun v9 H locs ls hG => ?_)
    · refine lv_if_lt (tgt := 46) hx hb d_D_unsigned_39 (by decide) (fun c_11 => ?_) (fun c_11 => ?_)
      · refine lv_iconst (v := (0 : Int32)) hx hb d_D_unsigned_46 (by decide) ?_
        exact J_10 (0 : Int32) _ _ _ ⟨by simp only [if_pos c_11], hP, hD, hS, (lv_sub hl [1, 2, 0, 3, 4, 5] rfl)⟩
      refine lv_iconst (v := (1 : Int32)) hx hb d_D_unsigned_42 (by decide) ?_
      refine lv_goto (tgt := 47) hx hb d_D_unsigned_43 (by decide) ?_
      exact J_10 (1 : Int32) _ _ _ ⟨by simp only [if_neg c_11], hP, hD, hS, (lv_sub hl [1, 2, 0, 3, 4, 5] rfl)⟩
    obtain ⟨x_9, rfl⟩ : ∃ z, z = v9 := ⟨_, rfl⟩
    obtain ⟨ex_9, hP, hD, hS, hl⟩ := hG
    have zbx_9 : zB x_9 := by rw [ex_9]; repeat' first | exact zB0 | exact zB1 | assumption | apply zB_ite
    refine lv_ior hx hb d_D_unsigned_47 ?_
    refine lv_istore (lv' := [(8, .int (x_3 ||| x_9)), (0, .long p0), (2, .long p1), (4, .long x_8), (6, .long x_2), (9, .int x_4)]) hx hb d_D_unsigned_48 hl (by decide) rfl (fun ls hl => ?_)
    refine lv_lload hx hb d_D_unsigned_50 (lv_at hl 4 rfl) ?_
    refine lv_iconst (v := (1 : Int32)) hx hb d_D_unsigned_52 (by decide) ?_
    refine lv_lshl (v := zlshl x_2 (1 : Int32)) hx hb d_D_unsigned_53 rfl ?_
    refine lv_lstore (lv' := [(6, .long (zlshl x_2 (1 : Int32))), (8, .int (x_3 ||| x_9)), (0, .long p0), (2, .long p1), (4, .long x_8), (9, .int x_4)]) hx hb d_D_unsigned_54 hl (by decide) rfl (fun ls hl => ?_)
    refine lv_lload hx hb d_D_unsigned_56 (lv_at hl 4 rfl) ?_
    refine lv_lload_n hx hb d_D_unsigned_58 rfl (lv_at hl 3 rfl) ?_
    refine W.lcmp hx hb d_D_unsigned_59 ?_
    refine zcut (X := Int64 × Int64) (G := fun v9 H locs ls => v9.1 = (if (lg_cmp x_8 p1) < (0 : Int32) then x_8 else x_8 - p1) ∧ v9.2 = (if (lg_cmp x_8 p1) < (0 : Int32) then zlshl x_2 (1 : Int32) else (zlshl x_2 (1 : Int32)) + (1 : Int64)) ∧ va_P D vwCl ([]) H ∧ va_D A ([]) ∧ va_S A s.heap H locs ∧ lv_has ls 10 [(0, .long p0), (2, .long p1), (4, .long v9.1), (6, .long v9.2), (8, .int (x_3 ||| x_9)), (9, .int x_4)]) (fr := fun v9 ls => F0 m 75 ls []) (fun J_14 => ?_) (fun v9 H locs ls hG => ?_)
    · refine lv_if_lt (tgt := 75) hx hb d_D_unsigned_60 (by decide) (fun c_15 => ?_) (fun c_15 => ?_)
      · exact J_14 (x_8, zlshl x_2 (1 : Int32)) _ _ _ ⟨by simp only [if_pos c_15], by simp only [if_pos c_15], hP, hD, hS, (lv_sub hl [2, 3, 4, 0, 1, 5] rfl)⟩
      refine lv_lload hx hb d_D_unsigned_63 (lv_at hl 4 rfl) ?_
      refine lv_lload_n hx hb d_D_unsigned_65 rfl (lv_at hl 3 rfl) ?_
      refine lv_lsub hx hb d_D_unsigned_66 ?_
      refine lv_lstore (lv' := [(4, .long (x_8 - p1)), (6, .long (zlshl x_2 (1 : Int32))), (8, .int (x_3 ||| x_9)), (0, .long p0), (2, .long p1), (9, .int x_4)]) hx hb d_D_unsigned_67 hl (by decide) rfl (fun ls hl => ?_)
      refine lv_lload hx hb d_D_unsigned_69 (lv_at hl 1 rfl) ?_
      refine lv_lconst (v := (1 : Int64)) hx hb d_D_unsigned_71 (by decide) ?_
      refine lv_ladd hx hb d_D_unsigned_72 ?_
      refine lv_lstore (lv' := [(6, .long ((zlshl x_2 (1 : Int32)) + (1 : Int64))), (4, .long (x_8 - p1)), (8, .int (x_3 ||| x_9)), (0, .long p0), (2, .long p1), (9, .int x_4)]) hx hb d_D_unsigned_73 hl (by decide) rfl (fun ls hl => ?_)
      exact J_14 (x_8 - p1, (zlshl x_2 (1 : Int32)) + (1 : Int64)) _ _ _ ⟨by simp only [if_neg c_15], by simp only [if_neg c_15], hP, hD, hS, (lv_sub hl [3, 4, 1, 0, 2, 5] rfl)⟩
    obtain ⟨x_12, x_13⟩ := v9
    obtain ⟨ex_12, ex_13, hP, hD, hS, hl⟩ := hG
    have ex_12 : x_12 = _ := ex_12
    have ex_13 : x_13 = _ := ex_13
    refine lv_iinc (v := x_4 + (-1 : Int32)) (lv' := [(9, .int (x_4 + (-1 : Int32))), (0, .long p0), (2, .long p1), (4, .long x_12), (6, .long x_13), (8, .int (x_3 ||| x_9))]) hx hb d_D_unsigned_75 hl (k := 5) rfl rfl (by decide) rfl (fun ls hl => ?_)
    refine lv_goto (tgt := 13) hx hb d_D_unsigned_78 (by decide) ?_
    exact ih (x_12, x_13, x_3 ||| x_9, x_4 + (-1 : Int32)) _ _ _ ⟨by rw [hF_5]; simp only [fl_D_unsigned_13, ← ex_8, ← ex_9, ← ex_12, ← ex_13, if_neg c_6], (un_back hI c_6), hP, hD, hS, (lv_sub hl [1, 2, 3, 4, 5, 0] rfl)⟩
  · obtain ⟨x_1, x_2, x_3, x_4⟩ := v9
    obtain ⟨-, hI, -⟩ := hG
    dsimp only at hI
    exact (by omega)
theorem ov_storeL {st : SD} {a b v : Int32} : ∀ (n k : Nat) (u : SD), okV u → okV (fl_D_store_3 st a b v n k u) := by
  intro n
  induction n with
  | zero => intro k u h; exact h
  | succ n ih =>
    intro k u h
    unfold fl_D_store_3
    split
    · exact h
    · exact ih _ _ h
theorem ov_store {st : SD} {a b v : Int32} (h : okV st) : okV (m_store st a b v) := ov_storeL _ _ _ h
