theorem d_S_coder_0 : decode c_S_coder 0 = .ok (.getstatic 38, 3) := by decide +kernel
theorem d_S_coder_3 : decode c_S_coder 3 = .ok (.ifCond .eq 10, 3) := by decide +kernel
theorem d_S_coder_6 : decode c_S_coder 6 = .ok (.aload_n 0, 1) := by decide +kernel
theorem d_S_coder_7 : decode c_S_coder 7 = .ok (.getfield 15, 3) := by decide +kernel
theorem d_S_coder_10 : decode c_S_coder 10 = .ok (.goto 4, 3) := by decide +kernel
theorem d_S_coder_13 : decode c_S_coder 13 = .ok (.iconst 1, 1) := by decide +kernel
theorem d_S_coder_14 : decode c_S_coder 14 = .ok (.ireturn, 1) := by decide +kernel
theorem kd_S_coder : (y_S_coder).cls = "java/lang/String" ∧ (y_S_coder).cls ≠ "java/lang/invoke/MethodHandle" ∧ (y_S_coder).cls ≠ "java/lang/invoke/VarHandle" ∧ (parseMethodDescriptor (y_S_coder).desc).map (fun d => d.parameters.length) = some 0 := by decide +kernel
def f_coder (i : Nat) : Int32 := (0 : Int32)
set_option maxHeartbeats 4000000 in
set_option maxRecDepth 100000 in
theorem mt_S_coder (l : Launch) (D : va_G) (za zk zv : Nat → Nat) (sz : Nat) (i : Nat) (hi : i < 18) : Met l y_S_coder w_S_coder ({ frames := 0, cells := 0, slots := 0, locals := 0 }) (va_Pc [.ref (zk i)] (zw_pre D vwCl [] sz ([]) (zz za zk zv (va_A ([]) sz)))) (va_Qi (fun r (_ : Unit) => r = f_coder i) (fun u t => zw_at D vwCl (va_A ([]) sz) ((fun (_ : Unit) => []) u) t) (va_A ([]) sz)) 0 0 (va_A ([]) sz) := by
  refine zm (Qf := fun A => va_Qi (fun r (_ : Unit) => r = f_coder i) (fun u t => zw_at D vwCl A ((fun (_ : Unit) => []) u) t) A) (Zf := fun A => zz za zk zv A) (cc := c_S_coder) (nL := 1) (ret := (some .byte)) (by decide) rfl (Nat.le_of_ble_eq_true rfl) ?_
  intro p e s m below meth c9 A H locs ls hx hb hml hown hts hr hlocks hA hK hP hD hS hZ hl
  have hl : lv_has ls 1 [(0, .ref (zk i))] := hl
  have ht : ∀ w9 ∈ zT, w9.before _ s = true := fun w9 h9 => hts w9 (List.mem_cons_of_mem _ h9)
  refine va_gets (C := "java/lang/String") (n := "COMPACT_STRINGS") (d := "Z") hx hb (zz_cs hZ) hS hown (ht _ zw_331) (fun _ h9 => h9) d_S_coder_0 ?_
  refine lv_if_eq (tgt := 13) hx hb d_S_coder_3 (by decide) (fun c_1 => absurd c_1 (by decide)) (fun c_1 => ?_)
  refine lv_aload_n hx hb d_S_coder_6 rfl (lv_at hl 0 rfl) ?_
  refine vk_getf hx hb ((zz_st hZ).1 i hi).2.1 hS hown (ht _ zw_1184) (fun _ h9 => h9) d_S_coder_7 ?_
  refine lv_goto (tgt := 14) hx hb d_S_coder_10 (by decide) ?_
  exact zl_z (u := ()) hx hb hr rfl hlocks hS hP hD (by simp only [f_coder]) d_S_coder_14
theorem d_S_isLatin1_0 : decode c_S_isLatin1 0 = .ok (.getstatic 38, 3) := by decide +kernel
theorem d_S_isLatin1_3 : decode c_S_isLatin1 3 = .ok (.ifCond .eq 14, 3) := by decide +kernel
theorem d_S_isLatin1_6 : decode c_S_isLatin1 6 = .ok (.aload_n 0, 1) := by decide +kernel
theorem d_S_isLatin1_7 : decode c_S_isLatin1 7 = .ok (.getfield 15, 3) := by decide +kernel
theorem d_S_isLatin1_10 : decode c_S_isLatin1 10 = .ok (.ifCond .ne 7, 3) := by decide +kernel
theorem d_S_isLatin1_13 : decode c_S_isLatin1 13 = .ok (.iconst 1, 1) := by decide +kernel
theorem d_S_isLatin1_14 : decode c_S_isLatin1 14 = .ok (.goto 4, 3) := by decide +kernel
theorem d_S_isLatin1_17 : decode c_S_isLatin1 17 = .ok (.iconst 0, 1) := by decide +kernel
theorem d_S_isLatin1_18 : decode c_S_isLatin1 18 = .ok (.ireturn, 1) := by decide +kernel
theorem kd_S_isLatin1 : (y_S_isLatin1).cls = "java/lang/String" ∧ (y_S_isLatin1).cls ≠ "java/lang/invoke/MethodHandle" ∧ (y_S_isLatin1).cls ≠ "java/lang/invoke/VarHandle" ∧ (parseMethodDescriptor (y_S_isLatin1).desc).map (fun d => d.parameters.length) = some 0 := by decide +kernel
def f_isLatin1 (i : Nat) : Int32 := (1 : Int32)
set_option maxHeartbeats 4000000 in
set_option maxRecDepth 100000 in
theorem mt_S_isLatin1 (l : Launch) (D : va_G) (za zk zv : Nat → Nat) (sz : Nat) (i : Nat) (hi : i < 18) : Met l y_S_isLatin1 w_S_isLatin1 ({ frames := 0, cells := 0, slots := 0, locals := 0 }) (va_Pc [.ref (zk i)] (zw_pre D vwCl [] sz ([]) (zz za zk zv (va_A ([]) sz)))) (va_Qi (fun r (_ : Unit) => r = f_isLatin1 i) (fun u t => zw_at D vwCl (va_A ([]) sz) ((fun (_ : Unit) => []) u) t) (va_A ([]) sz)) 0 0 (va_A ([]) sz) := by
  refine zm (Qf := fun A => va_Qi (fun r (_ : Unit) => r = f_isLatin1 i) (fun u t => zw_at D vwCl A ((fun (_ : Unit) => []) u) t) A) (Zf := fun A => zz za zk zv A) (cc := c_S_isLatin1) (nL := 1) (ret := (some .boolean)) (by decide) rfl (Nat.le_of_ble_eq_true rfl) ?_
  intro p e s m below meth c9 A H locs ls hx hb hml hown hts hr hlocks hA hK hP hD hS hZ hl
  have hl : lv_has ls 1 [(0, .ref (zk i))] := hl
  have ht : ∀ w9 ∈ zT, w9.before _ s = true := fun w9 h9 => hts w9 (List.mem_cons_of_mem _ h9)
  refine va_gets (C := "java/lang/String") (n := "COMPACT_STRINGS") (d := "Z") hx hb (zz_cs hZ) hS hown (ht _ zw_331) (fun _ h9 => h9) d_S_isLatin1_0 ?_
  refine lv_if_eq (tgt := 17) hx hb d_S_isLatin1_3 (by decide) (fun c_1 => absurd c_1 (by decide)) (fun c_1 => ?_)
  refine lv_aload_n hx hb d_S_isLatin1_6 rfl (lv_at hl 0 rfl) ?_
  refine vk_getf hx hb ((zz_st hZ).1 i hi).2.1 hS hown (ht _ zw_1184) (fun _ h9 => h9) d_S_isLatin1_7 ?_
  refine lv_if_ne (tgt := 17) hx hb d_S_isLatin1_10 (by decide) (fun c_2 => absurd c_2 (by decide)) (fun c_2 => ?_)
  refine lv_iconst (v := (1 : Int32)) hx hb d_S_isLatin1_13 (by decide) ?_
  refine lv_goto (tgt := 18) hx hb d_S_isLatin1_14 (by decide) ?_
  exact zl_z (u := ()) hx hb hr rfl hlocks hS hP hD (by simp only [f_isLatin1]) d_S_isLatin1_18
theorem d_S_length_0 : decode c_S_length 0 = .ok (.aload_n 0, 1) := by decide +kernel
theorem d_S_length_1 : decode c_S_length 1 = .ok (.getfield 9, 3) := by decide +kernel
theorem d_S_length_4 : decode c_S_length 4 = .ok (.arraylength, 1) := by decide +kernel
theorem d_S_length_5 : decode c_S_length 5 = .ok (.aload_n 0, 1) := by decide +kernel
theorem d_S_length_6 : decode c_S_length 6 = .ok (.invokevirtual 335, 3) := by decide +kernel
theorem d_S_length_9 : decode c_S_length 9 = .ok (.ishr, 1) := by decide +kernel
theorem d_S_length_10 : decode c_S_length 10 = .ok (.ireturn, 1) := by decide +kernel
theorem kd_S_length : (y_S_length).cls = "java/lang/String" ∧ (y_S_length).cls ≠ "java/lang/invoke/MethodHandle" ∧ (y_S_length).cls ≠ "java/lang/invoke/VarHandle" ∧ (parseMethodDescriptor (y_S_length).desc).map (fun d => d.parameters.length) = some 0 := by decide +kernel
def f_slen (i : Nat) : Int32 := (nI (lenS.getD i 0)) >>> ((f_coder i) &&& 31)
set_option maxHeartbeats 4000000 in
set_option maxRecDepth 100000 in
theorem mt_S_length (l : Launch) (D : va_G) (za zk zv : Nat → Nat) (sz : Nat) (i : Nat) (hi : i < 18) : Met l y_S_length w_S_length ({ frames := 1, cells := 0, slots := 0, locals := 20 }) (va_Pc [.ref (zk i)] (zw_pre D vwCl [] sz ([]) (zz za zk zv (va_A ([]) sz)))) (va_Qi (fun r (_ : Unit) => r = f_slen i) (fun u t => zw_at D vwCl (va_A ([]) sz) ((fun (_ : Unit) => []) u) t) (va_A ([]) sz)) 0 0 (va_A ([]) sz) := by
  refine zm (Qf := fun A => va_Qi (fun r (_ : Unit) => r = f_slen i) (fun u t => zw_at D vwCl A ((fun (_ : Unit) => []) u) t) A) (Zf := fun A => zz za zk zv A) (cc := c_S_length) (nL := 1) (ret := (some .int)) (by decide) rfl (Nat.le_of_ble_eq_true rfl) ?_
  intro p e s m below meth c9 A H locs ls hx hb hml hown hts hr hlocks hA hK hP hD hS hZ hl
  have hl : lv_has ls 1 [(0, .ref (zk i))] := hl
  have ht : ∀ w9 ∈ zT, w9.before _ s = true := fun w9 h9 => hts w9 (List.mem_cons_of_mem _ h9)
  refine lv_aload_n hx hb d_S_length_0 rfl (lv_at hl 0 rfl) ?_
  refine vk_getf hx hb ((zz_st hZ).1 i hi).2.2.1 hS hown (ht _ zw_1183) (fun _ h9 => h9) d_S_length_1 ?_
  refine va_tlen (v := nI (lenS.getD i 0)) hx hb ((zz_st hZ).1 i hi).2.2.2 hS rfl d_S_length_4 ?_
  refine lv_aload_n hx hb d_S_length_5 rfl (lv_at hl 0 rfl) ?_
  refine zc_i (w2 := fun _ => []) (va_runV (As := []) (rest := [.int (nI (lenS.getD i 0))]) ⟨hx, hb, hml, hown, ht⟩ (mt_S_coder l D za zk zv H.size i hi) (cwV 0 ht (zgV zw_327 zw_328 zw_329 zw_13 zw_330) rfl rfl rfl kd_S_coder ⟨Nat.le_of_ble_eq_true rfl, Nat.le_of_ble_eq_true rfl⟩) ⟨zw_blind zz_bl, vk_recv (zz_st hZ) hi hS, zw_go (hP.sub (ws' := []) [] rfl) (hD.sub (ws' := []) [] (by decide) rfl) (hK.sub (tys' := []) [] rfl) (fun U hU hW => zz_go hZ hS (va_free (wc := []) hD hS hA [] rfl) hU hW)⟩ rfl rfl hl.1 rfl (lv_room (Nat.le_of_ble_eq_true rfl)) d_S_length_6 ⟨Nat.le_of_ble_eq_true rfl, Nat.le_of_ble_eq_true rfl⟩) hP hD hS hA [] [] [] rfl rfl (by decide) (by decide) (by decide) (fun _ => rfl) (fun r_1 _ H locs hw hP hD hS => ?_)
  subst hw
  refine lv_ishr hx hb d_S_length_9 ?_
  exact zl_i (u := ()) hx hb hr hlocks hS hP hD (by simp only [f_slen]) d_S_length_10
theorem d_Q_checkIndex_0 : decode c_Q_checkIndex 0 = .ok (.iload_n 0, 1) := by decide +kernel
theorem d_Q_checkIndex_1 : decode c_Q_checkIndex 1 = .ok (.ifCond .lt 8, 3) := by decide +kernel
theorem d_Q_checkIndex_4 : decode c_Q_checkIndex 4 = .ok (.iload_n 0, 1) := by decide +kernel
theorem d_Q_checkIndex_5 : decode c_Q_checkIndex 5 = .ok (.iload_n 1, 1) := by decide +kernel
theorem d_Q_checkIndex_6 : decode c_Q_checkIndex 6 = .ok (.if_icmp .lt 10, 3) := by decide +kernel
theorem d_Q_checkIndex_9 : decode c_Q_checkIndex 9 = .ok (.aload_n 2, 1) := by decide +kernel
theorem d_Q_checkIndex_10 : decode c_Q_checkIndex 10 = .ok (.iload_n 0, 1) := by decide +kernel
theorem d_Q_checkIndex_11 : decode c_Q_checkIndex 11 = .ok (.iload_n 1, 1) := by decide +kernel
theorem d_Q_checkIndex_12 : decode c_Q_checkIndex 12 = .ok (.invokestatic 95, 3) := by decide +kernel
theorem d_Q_checkIndex_15 : decode c_Q_checkIndex 15 = .ok (.athrow, 1) := by decide +kernel
theorem d_Q_checkIndex_16 : decode c_Q_checkIndex 16 = .ok (.iload_n 0, 1) := by decide +kernel
theorem d_Q_checkIndex_17 : decode c_Q_checkIndex 17 = .ok (.ireturn, 1) := by decide +kernel
theorem kd_Q_checkIndex : (y_Q_checkIndex).cls = "jdk/internal/util/Preconditions" ∧ (y_Q_checkIndex).cls ≠ "java/lang/invoke/MethodHandle" ∧ (y_Q_checkIndex).cls ≠ "java/lang/invoke/VarHandle" ∧ (parseMethodDescriptor (y_Q_checkIndex).desc).map (fun d => d.parameters.length) = some 3 := by decide +kernel
def f_pcheck (p0 : Int32) (p1 : Int32) : Int32 := p0
set_option maxHeartbeats 4000000 in
set_option maxRecDepth 100000 in
theorem mt_Q_checkIndex (l : Launch) (D : va_G) (sz : Nat) (p0 : Int32) (p1 : Int32) (h0 : ¬ p0 < (0 : Int32)) (h1 : p0 < p1) : Met l y_Q_checkIndex w_Q_checkIndex ({ frames := 0, cells := 0, slots := 0, locals := 0 }) (va_Pc [.int p0, .int p1, .null] (zw_pre D vwCl [] sz ([]) (fun _ => True))) (va_Qi (fun r (_ : Unit) => r = f_pcheck p0 p1) (fun u t => zw_at D vwCl (va_A ([]) sz) ((fun (_ : Unit) => []) u) t) (va_A ([]) sz)) 0 0 (va_A ([]) sz) := by
  refine zm (Qf := fun A => va_Qi (fun r (_ : Unit) => r = f_pcheck p0 p1) (fun u t => zw_at D vwCl A ((fun (_ : Unit) => []) u) t) A) (Zf := fun _ _ => True) (cc := c_Q_checkIndex) (nL := 3) (ret := (some .int)) (by decide) rfl (Nat.le_of_ble_eq_true rfl) ?_
  intro p e s m below meth c9 A H locs ls hx hb hml hown hts hr hlocks hA hK hP hD hS hZ hl
  have hl : lv_has ls 3 [(0, .int p0), (1, .int p1), (2, .null)] := hl
  have ht : ∀ w9 ∈ zT, w9.before _ s = true := fun w9 h9 => hts w9 (List.mem_cons_of_mem _ h9)
  refine lv_iload_n hx hb d_Q_checkIndex_0 rfl (lv_at hl 0 rfl) ?_
  refine lv_if_lt (tgt := 9) hx hb d_Q_checkIndex_1 (by decide) (fun c_1 => absurd c_1 h0) (fun c_1 => ?_)
  refine lv_iload_n hx hb d_Q_checkIndex_4 rfl (lv_at hl 0 rfl) ?_
  refine lv_iload_n hx hb d_Q_checkIndex_5 rfl (lv_at hl 1 rfl) ?_
  refine lv_icmp_lt (tgt := 16) hx hb d_Q_checkIndex_6 (by decide) (fun c_2 => ?_) (fun c_2 => absurd h1 c_2)
  refine lv_iload_n hx hb d_Q_checkIndex_16 rfl (lv_at hl 0 rfl) ?_
  exact zl_i (u := ()) hx hb hr hlocks hS hP hD (by simp only [f_pcheck]) d_Q_checkIndex_17
def f_pcheckR (t0 : Nat) (p0 : Int32) (p1 : Int32) : Int32 := p0
set_option maxHeartbeats 4000000 in
set_option maxRecDepth 100000 in
theorem mt_Q_checkIndexR (l : Launch) (D : va_G) (sz : Nat) (t0 : Nat) (p0 : Int32) (p1 : Int32) (h0 : ¬ p0 < (0 : Int32)) (h1 : p0 < p1) : Met l y_Q_checkIndex w_Q_checkIndex ({ frames := 0, cells := 0, slots := 0, locals := 0 }) (va_Pc [.int p0, .int p1, .ref t0] (zw_pre D vwCl [] sz ([]) (fun _ => True))) (va_Qi (fun r (_ : Unit) => r = f_pcheckR t0 p0 p1) (fun u t => zw_at D vwCl (va_A ([]) sz) ((fun (_ : Unit) => []) u) t) (va_A ([]) sz)) 0 0 (va_A ([]) sz) := by
  refine zm (Qf := fun A => va_Qi (fun r (_ : Unit) => r = f_pcheckR t0 p0 p1) (fun u t => zw_at D vwCl A ((fun (_ : Unit) => []) u) t) A) (Zf := fun _ _ => True) (cc := c_Q_checkIndex) (nL := 3) (ret := (some .int)) (by decide) rfl (Nat.le_of_ble_eq_true rfl) ?_
  intro p e s m below meth c9 A H locs ls hx hb hml hown hts hr hlocks hA hK hP hD hS hZ hl
  have hl : lv_has ls 3 [(0, .int p0), (1, .int p1), (2, .ref t0)] := hl
  have ht : ∀ w9 ∈ zT, w9.before _ s = true := fun w9 h9 => hts w9 (List.mem_cons_of_mem _ h9)
  refine lv_iload_n hx hb d_Q_checkIndex_0 rfl (lv_at hl 0 rfl) ?_
  refine lv_if_lt (tgt := 9) hx hb d_Q_checkIndex_1 (by decide) (fun c_1 => absurd c_1 h0) (fun c_1 => ?_)
  refine lv_iload_n hx hb d_Q_checkIndex_4 rfl (lv_at hl 0 rfl) ?_
  refine lv_iload_n hx hb d_Q_checkIndex_5 rfl (lv_at hl 1 rfl) ?_
  refine lv_icmp_lt (tgt := 16) hx hb d_Q_checkIndex_6 (by decide) (fun c_2 => ?_) (fun c_2 => absurd h1 c_2)
  refine lv_iload_n hx hb d_Q_checkIndex_16 rfl (lv_at hl 0 rfl) ?_
  exact zl_i (u := ()) hx hb hr hlocks hS hP hD (by simp only [f_pcheckR]) d_Q_checkIndex_17
theorem lenS_lt {i : Nat} (hi : i < 18) : lenS.getD i 0 < 2 ^ 31 := by
  have h : ∀ i : Fin 18, lenS.getD i 0 < 2 ^ 31 := by decide +kernel
  exact h ⟨i, hi⟩
theorem ck0 {x : Int32} {n : Nat} (h : vp_in x n) : ¬ x < (0 : Int32) := fun q => h (Or.inl q)
theorem ck1 {x : Int32} {i : Nat} (hi : i < 18) (h : vp_in x (lenS.getD i 0)) : x < nI (lenS.getD i 0) := by
  obtain ⟨j, hj, rfl⟩ := vp_in_of h (lenS_lt hi)
  exact nI_lt hj (lenS_lt hi)
theorem d_S_checkIndex_0 : decode c_S_checkIndex 0 = .ok (.iload_n 0, 1) := by decide +kernel
theorem d_S_checkIndex_1 : decode c_S_checkIndex 1 = .ok (.iload_n 1, 1) := by decide +kernel
theorem d_S_checkIndex_2 : decode c_S_checkIndex 2 = .ok (.getstatic 1053, 3) := by decide +kernel
theorem d_S_checkIndex_5 : decode c_S_checkIndex 5 = .ok (.invokestatic 1059, 3) := by decide +kernel
theorem d_S_checkIndex_8 : decode c_S_checkIndex 8 = .ok (.pop, 1) := by decide +kernel
theorem d_S_checkIndex_9 : decode c_S_checkIndex 9 = .ok (.return_, 1) := by decide +kernel
theorem kd_S_checkIndex : (y_S_checkIndex).cls = "java/lang/String" ∧ (y_S_checkIndex).cls ≠ "java/lang/invoke/MethodHandle" ∧ (y_S_checkIndex).cls ≠ "java/lang/invoke/VarHandle" ∧ (parseMethodDescriptor (y_S_checkIndex).desc).map (fun d => d.parameters.length) = some 2 := by decide +kernel
def f_scheck (p0 : Int32) (p1 : Int32) : Unit := ()
set_option maxHeartbeats 4000000 in
set_option maxRecDepth 100000 in
theorem mt_S_checkIndex (l : Launch) (D : va_G) (za zk zv : Nat → Nat) (sz : Nat) (p0 : Int32) (p1 : Int32) (h0 : ¬ p0 < (0 : Int32)) (h1 : p0 < p1) : Met l y_S_checkIndex w_S_checkIndex ({ frames := 1, cells := 0, slots := 0, locals := 22 }) (va_Pc [.int p0, .int p1] (zw_pre D vwCl [] sz ([]) (zz za zk zv (va_A ([]) sz)))) (va_Qv (fun (_ : Unit) => True) (fun u t => zw_at D vwCl (va_A ([]) sz) ((fun (_ : Unit) => []) u) t) (va_A ([]) sz)) 0 0 (va_A ([]) sz) := by
  refine zm (Qf := fun A => va_Qv (fun (_ : Unit) => True) (fun u t => zw_at D vwCl A ((fun (_ : Unit) => []) u) t) A) (Zf := fun A => zz za zk zv A) (cc := c_S_checkIndex) (nL := 2) (ret := none) (by decide) rfl (Nat.le_of_ble_eq_true rfl) ?_
  intro p e s m below meth c9 A H locs ls hx hb hml hown hts hr hlocks hA hK hP hD hS hZ hl
  have hl : lv_has ls 2 [(0, .int p0), (1, .int p1)] := hl
  have ht : ∀ w9 ∈ zT, w9.before _ s = true := fun w9 h9 => hts w9 (List.mem_cons_of_mem _ h9)
  rcases zz_sio hZ with h9 | ⟨t9, h9⟩
  · refine lv_iload_n hx hb d_S_checkIndex_0 rfl (lv_at hl 0 rfl) ?_
    refine lv_iload_n hx hb d_S_checkIndex_1 rfl (lv_at hl 1 rfl) ?_
    refine va_gets (C := "jdk/internal/util/Preconditions") (n := "SIOOBE_FORMATTER") (d := "Ljava/util/function/BiFunction;") hx hb h9 hS hown (ht _ zw_347) (fun _ h9 => h9) d_S_checkIndex_2 ?_
    refine zc_i (w2 := fun _ => []) (va_runS (As := [.int p0, .int p1, .null]) (rest := []) ⟨hx, hb, hml, hown, ht⟩ (mt_Q_checkIndex l D H.size p0 p1 h0 h1) (va_cwS 3 ht (zgO zw_349 zw_350 zw_15 zw_351) rfl rfl rfl kd_Q_checkIndex.2 ⟨Nat.le_of_ble_eq_true rfl, Nat.le_of_ble_eq_true rfl⟩) ⟨zw_blind zw_tt, zw_go (hP.sub (ws' := []) [] rfl) (hD.sub (ws' := []) [] (by decide) rfl) (hK.sub (tys' := []) [] rfl) (fun _ _ _ => trivial)⟩ rfl rfl hl.1 rfl (lv_room (Nat.le_of_ble_eq_true rfl)) d_S_checkIndex_5 ⟨Nat.le_of_ble_eq_true rfl, Nat.le_of_ble_eq_true rfl⟩) hP hD hS hA [] [] [] rfl rfl (by decide) (by decide) (by decide) (fun _ => rfl) (fun r_1 _ H locs hw hP hD hS => ?_)
    subst hw
    refine lv_pop hx hb d_S_checkIndex_8 rfl ?_
    exact zl_v (u := ()) hx hb hr hlocks hS hP hD (trivial) d_S_checkIndex_9
  · refine lv_iload_n hx hb d_S_checkIndex_0 rfl (lv_at hl 0 rfl) ?_
    refine lv_iload_n hx hb d_S_checkIndex_1 rfl (lv_at hl 1 rfl) ?_
    refine va_gets (C := "jdk/internal/util/Preconditions") (n := "SIOOBE_FORMATTER") (d := "Ljava/util/function/BiFunction;") hx hb h9 hS hown (ht _ zw_347) (fun _ h9 => h9) d_S_checkIndex_2 ?_
    refine zc_i (w2 := fun _ => []) (va_runS (As := [.int p0, .int p1, .ref t9]) (rest := []) ⟨hx, hb, hml, hown, ht⟩ (mt_Q_checkIndexR l D H.size t9 p0 p1 h0 h1) (va_cwS 3 ht (zgO zw_349 zw_350 zw_15 zw_351) rfl rfl rfl kd_Q_checkIndex.2 ⟨Nat.le_of_ble_eq_true rfl, Nat.le_of_ble_eq_true rfl⟩) ⟨zw_blind zw_tt, zw_go (hP.sub (ws' := []) [] rfl) (hD.sub (ws' := []) [] (by decide) rfl) (hK.sub (tys' := []) [] rfl) (fun _ _ _ => trivial)⟩ rfl rfl hl.1 rfl (lv_room (Nat.le_of_ble_eq_true rfl)) d_S_checkIndex_5 ⟨Nat.le_of_ble_eq_true rfl, Nat.le_of_ble_eq_true rfl⟩) hP hD hS hA [] [] [] rfl rfl (by decide) (by decide) (by decide) (fun _ => rfl) (fun r_2 _ H locs hw hP hD hS => ?_)
    subst hw
    refine lv_pop hx hb d_S_checkIndex_8 rfl ?_
    exact zl_v (u := ()) hx hb hr hlocks hS hP hD (trivial) d_S_checkIndex_9
theorem d_T_charAt_0 : decode c_T_charAt 0 = .ok (.iload_n 1, 1) := by decide +kernel
theorem d_T_charAt_1 : decode c_T_charAt 1 = .ok (.aload_n 0, 1) := by decide +kernel
theorem d_T_charAt_2 : decode c_T_charAt 2 = .ok (.arraylength, 1) := by decide +kernel
theorem d_T_charAt_3 : decode c_T_charAt 3 = .ok (.invokestatic 9, 3) := by decide +kernel
theorem d_T_charAt_6 : decode c_T_charAt 6 = .ok (.aload_n 0, 1) := by decide +kernel
theorem d_T_charAt_7 : decode c_T_charAt 7 = .ok (.iload_n 1, 1) := by decide +kernel
theorem d_T_charAt_8 : decode c_T_charAt 8 = .ok (.baload, 1) := by decide +kernel
theorem d_T_charAt_9 : decode c_T_charAt 9 = .ok (.sipush 255, 3) := by decide +kernel
theorem d_T_charAt_12 : decode c_T_charAt 12 = .ok (.iand, 1) := by decide +kernel
theorem d_T_charAt_13 : decode c_T_charAt 13 = .ok (.i2c, 1) := by decide +kernel
theorem d_T_charAt_14 : decode c_T_charAt 14 = .ok (.ireturn, 1) := by decide +kernel
theorem kd_T_charAt : (y_T_charAt).cls = "java/lang/StringLatin1" ∧ (y_T_charAt).cls ≠ "java/lang/invoke/MethodHandle" ∧ (y_T_charAt).cls ≠ "java/lang/invoke/VarHandle" ∧ (parseMethodDescriptor (y_T_charAt).desc).map (fun d => d.parameters.length) = some 2 := by decide +kernel
def f_lchar (i : Nat) (p1 : Int32) : Int32 := zchar (((bytS.getD i []).getD p1.toNatClampNeg 0) &&& (255 : Int32))
set_option maxHeartbeats 4000000 in
set_option maxRecDepth 100000 in
theorem mt_T_charAt (l : Launch) (D : va_G) (za zk zv : Nat → Nat) (sz : Nat) (i : Nat) (hi : i < 18) (p1 : Int32) (hk : vp_in p1 (lenS.getD i 0)) : Met l y_T_charAt w_T_charAt ({ frames := 2, cells := 0, slots := 0, locals := 43 }) (va_Pc [.ref (zv i), .int p1] (zw_pre D vwCl [] sz ([]) (zz za zk zv (va_A ([]) sz)))) (va_Qi (fun r (_ : Unit) => r = f_lchar i p1) (fun u t => zw_at D vwCl (va_A ([]) sz) ((fun (_ : Unit) => []) u) t) (va_A ([]) sz)) 0 0 (va_A ([]) sz) := by
  refine zm (Qf := fun A => va_Qi (fun r (_ : Unit) => r = f_lchar i p1) (fun u t => zw_at D vwCl A ((fun (_ : Unit) => []) u) t) A) (Zf := fun A => zz za zk zv A) (cc := c_T_charAt) (nL := 2) (ret := (some .char)) (by decide) rfl (Nat.le_of_ble_eq_true rfl) ?_
  intro p e s m below meth c9 A H locs ls hx hb hml hown hts hr hlocks hA hK hP hD hS hZ hl
  have hl : lv_has ls 2 [(0, .ref (zv i)), (1, .int p1)] := hl
  have ht : ∀ w9 ∈ zT, w9.before _ s = true := fun w9 h9 => hts w9 (List.mem_cons_of_mem _ h9)
  refine lv_iload_n hx hb d_T_charAt_0 rfl (lv_at hl 1 rfl) ?_
  refine lv_aload_n hx hb d_T_charAt_1 rfl (lv_at hl 0 rfl) ?_
  refine va_tlen (v := nI (lenS.getD i 0)) hx hb ((zz_st hZ).1 i hi).2.2.2 hS rfl d_T_charAt_2 ?_
  refine zc_v (w2 := fun _ => []) (va_runS (As := [.int p1, .int (nI (lenS.getD i 0))]) (rest := []) ⟨hx, hb, hml, hown, ht⟩ (mt_S_checkIndex l D za zk zv H.size p1 (nI (lenS.getD i 0)) (ck0 hk) (ck1 hi hk)) (va_cwS 2 ht (zgO zw_344 zw_345 zw_13 zw_346) rfl rfl rfl kd_S_checkIndex.2 ⟨Nat.le_of_ble_eq_true rfl, Nat.le_of_ble_eq_true rfl⟩) ⟨zw_blind zz_bl, zw_go (hP.sub (ws' := []) [] rfl) (hD.sub (ws' := []) [] (by decide) rfl) (hK.sub (tys' := []) [] rfl) (fun U hU hW => zz_go hZ hS (va_free (wc := []) hD hS hA [] rfl) hU hW)⟩ rfl rfl hl.1 rfl (lv_room (Nat.le_of_ble_eq_true rfl)) d_T_charAt_3 ⟨Nat.le_of_ble_eq_true rfl, Nat.le_of_ble_eq_true rfl⟩) hP hD hS hA [] [] [] rfl rfl (by decide) (by decide) (by decide) (fun _ => rfl) (fun _ H locs hw hP hD hS => ?_)
  refine lv_aload_n hx hb d_T_charAt_6 rfl (lv_at hl 0 rfl) ?_
  refine lv_iload_n hx hb d_T_charAt_7 rfl (lv_at hl 1 rfl) ?_
  refine va_tb hx hb ((zz_st hZ).1 i hi).2.2.2 hS hk rfl d_T_charAt_8 ?_
  refine lv_sipush (v := (255 : Int32)) hx hb d_T_charAt_9 (by decide) ?_
  refine lv_iand hx hb d_T_charAt_12 ?_
  refine lv_i2c (v := zchar (((bytS.getD i []).getD p1.toNatClampNeg 0) &&& (255 : Int32))) hx hb d_T_charAt_13 rfl ?_
  exact zl_z (u := ()) hx hb hr (pk_nc _) hlocks hS hP hD (by simp only [f_lchar]) d_T_charAt_14
theorem d_S_charAt_0 : decode c_S_charAt 0 = .ok (.aload_n 0, 1) := by decide +kernel
theorem d_S_charAt_1 : decode c_S_charAt 1 = .ok (.invokevirtual 492, 3) := by decide +kernel
theorem d_S_charAt_4 : decode c_S_charAt 4 = .ok (.ifCond .eq 12, 3) := by decide +kernel
theorem d_S_charAt_7 : decode c_S_charAt 7 = .ok (.aload_n 0, 1) := by decide +kernel
theorem d_S_charAt_8 : decode c_S_charAt 8 = .ok (.getfield 9, 3) := by decide +kernel
theorem d_S_charAt_11 : decode c_S_charAt 11 = .ok (.iload_n 1, 1) := by decide +kernel
theorem d_S_charAt_12 : decode c_S_charAt 12 = .ok (.invokestatic 495, 3) := by decide +kernel
theorem d_S_charAt_15 : decode c_S_charAt 15 = .ok (.ireturn, 1) := by decide +kernel
theorem d_S_charAt_16 : decode c_S_charAt 16 = .ok (.aload_n 0, 1) := by decide +kernel
theorem d_S_charAt_17 : decode c_S_charAt 17 = .ok (.getfield 9, 3) := by decide +kernel
theorem d_S_charAt_20 : decode c_S_charAt 20 = .ok (.iload_n 1, 1) := by decide +kernel
theorem d_S_charAt_21 : decode c_S_charAt 21 = .ok (.invokestatic 498, 3) := by decide +kernel
theorem d_S_charAt_24 : decode c_S_charAt 24 = .ok (.ireturn, 1) := by decide +kernel
theorem kd_S_charAt : (y_S_charAt).cls = "java/lang/String" ∧ (y_S_charAt).cls ≠ "java/lang/invoke/MethodHandle" ∧ (y_S_charAt).cls ≠ "java/lang/invoke/VarHandle" ∧ (parseMethodDescriptor (y_S_charAt).desc).map (fun d => d.parameters.length) = some 1 := by decide +kernel
def f_schar (i : Nat) (p0 : Int32) : Int32 := f_lchar i p0
set_option maxHeartbeats 4000000 in
set_option maxRecDepth 100000 in
theorem mt_S_charAt (l : Launch) (D : va_G) (za zk zv : Nat → Nat) (sz : Nat) (i : Nat) (hi : i < 18) (p0 : Int32) (hk : vp_in p0 (lenS.getD i 0)) : Met l y_S_charAt w_S_charAt ({ frames := 3, cells := 0, slots := 0, locals := 64 }) (va_Pc [.ref (zk i), .int p0] (zw_pre D vwCl [] sz ([]) (zz za zk zv (va_A ([]) sz)))) (va_Qi (fun r (_ : Unit) => r = f_schar i p0) (fun u t => zw_at D vwCl (va_A ([]) sz) ((fun (_ : Unit) => []) u) t) (va_A ([]) sz)) 0 0 (va_A ([]) sz) := by
  refine zm (Qf := fun A => va_Qi (fun r (_ : Unit) => r = f_schar i p0) (fun u t => zw_at D vwCl A ((fun (_ : Unit) => []) u) t) A) (Zf := fun A => zz za zk zv A) (cc := c_S_charAt) (nL := 2) (ret := (some .char)) (by decide) rfl (Nat.le_of_ble_eq_true rfl) ?_
  intro p e s m below meth c9 A H locs ls hx hb hml hown hts hr hlocks hA hK hP hD hS hZ hl
  have hl : lv_has ls 2 [(0, .ref (zk i)), (1, .int p0)] := hl
  have ht : ∀ w9 ∈ zT, w9.before _ s = true := fun w9 h9 => hts w9 (List.mem_cons_of_mem _ h9)
  refine lv_aload_n hx hb d_S_charAt_0 rfl (lv_at hl 0 rfl) ?_
  refine zc_i (w2 := fun _ => []) (va_runV (As := []) (rest := []) ⟨hx, hb, hml, hown, ht⟩ (mt_S_isLatin1 l D za zk zv H.size i hi) (cwV 0 ht (zgV zw_337 zw_338 zw_339 zw_13 zw_340) rfl rfl rfl kd_S_isLatin1 ⟨Nat.le_of_ble_eq_true rfl, Nat.le_of_ble_eq_true rfl⟩) ⟨zw_blind zz_bl, vk_recv (zz_st hZ) hi hS, zw_go (hP.sub (ws' := []) [] rfl) (hD.sub (ws' := []) [] (by decide) rfl) (hK.sub (tys' := []) [] rfl) (fun U hU hW => zz_go hZ hS (va_free (wc := []) hD hS hA [] rfl) hU hW)⟩ rfl rfl hl.1 rfl (lv_room (Nat.le_of_ble_eq_true rfl)) d_S_charAt_1 ⟨Nat.le_of_ble_eq_true rfl, Nat.le_of_ble_eq_true rfl⟩) hP hD hS hA [] [] [] rfl rfl (by decide) (by decide) (by decide) (fun _ => rfl) (fun r_1 _ H locs hw hP hD hS => ?_)
  subst hw
  refine lv_if_eq (tgt := 16) hx hb d_S_charAt_4 (by decide) (fun c_2 => absurd c_2 (by unfold f_isLatin1; decide)) (fun c_2 => ?_)
  refine lv_aload_n hx hb d_S_charAt_7 rfl (lv_at hl 0 rfl) ?_
  refine vk_getf hx hb ((zz_st hZ).1 i hi).2.2.1 hS hown (ht _ zw_1183) (fun _ h9 => h9) d_S_charAt_8 ?_
  refine lv_iload_n hx hb d_S_charAt_11 rfl (lv_at hl 1 rfl) ?_
  refine zc_i (w2 := fun _ => []) (va_runS (As := [.ref (zv i), .int p0]) (rest := []) ⟨hx, hb, hml, hown, ht⟩ (mt_T_charAt l D za zk zv H.size i hi p0 hk) (va_cwS 2 ht (zgO zw_341 zw_342 zw_14 zw_343) rfl rfl rfl kd_T_charAt.2 ⟨Nat.le_of_ble_eq_true rfl, Nat.le_of_ble_eq_true rfl⟩) ⟨zw_blind zz_bl, zw_go (hP.sub (ws' := []) [] rfl) (hD.sub (ws' := []) [] (by decide) rfl) (hK.sub (tys' := []) [] rfl) (fun U hU hW => zz_go hZ hS (va_free (wc := []) hD hS hA [] rfl) hU hW)⟩ rfl rfl hl.1 rfl (lv_room (Nat.le_of_ble_eq_true rfl)) d_S_charAt_12 ⟨Nat.le_of_ble_eq_true rfl, Nat.le_of_ble_eq_true rfl⟩) hP hD hS hA [] [] [] rfl rfl (by decide) (by decide) (by decide) (fun _ => rfl) (fun r_3 _ H locs hw hP hD hS => ?_)
  subst hw
  exact zl_z (u := ()) hx hb hr (by unfold f_lchar; exact pk_nc _) hlocks hS hP hD (by simp only [f_schar]) d_S_charAt_15
