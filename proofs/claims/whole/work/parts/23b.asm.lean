theorem d_A_number_0 : decode c_A_number 0 = .ok (.aload_n 0, 1) := by decide +kernel
theorem d_A_number_1 : decode c_A_number 1 = .ok (.getfield 26, 3) := by decide +kernel
theorem d_A_number_4 : decode c_A_number 4 = .ok (.istore_n 3, 1) := by decide +kernel
theorem d_A_number_5 : decode c_A_number 5 = .ok (.aload_n 0, 1) := by decide +kernel
theorem d_A_number_6 : decode c_A_number 6 = .ok (.invokevirtual 36, 3) := by decide +kernel
theorem d_A_number_9 : decode c_A_number 9 = .ok (.ifCond .eq 32, 3) := by decide +kernel
theorem d_A_number_12 : decode c_A_number 12 = .ok (.aload_n 0, 1) := by decide +kernel
theorem d_A_number_13 : decode c_A_number 13 = .ok (.getfield 26, 3) := by decide +kernel
theorem d_A_number_16 : decode c_A_number 16 = .ok (.aload_n 0, 1) := by decide +kernel
theorem d_A_number_17 : decode c_A_number 17 = .ok (.getfield 23, 3) := by decide +kernel
theorem d_A_number_20 : decode c_A_number 20 = .ok (.if_icmp .ge 21, 3) := by decide +kernel
theorem d_A_number_23 : decode c_A_number 23 = .ok (.aload_n 0, 1) := by decide +kernel
theorem d_A_number_24 : decode c_A_number 24 = .ok (.getfield 11, 3) := by decide +kernel
theorem d_A_number_27 : decode c_A_number 27 = .ok (.aload_n 0, 1) := by decide +kernel
theorem d_A_number_28 : decode c_A_number 28 = .ok (.getfield 26, 3) := by decide +kernel
theorem d_A_number_31 : decode c_A_number 31 = .ok (.caload, 1) := by decide +kernel
theorem d_A_number_32 : decode c_A_number 32 = .ok (.bipush 45, 2) := by decide +kernel
theorem d_A_number_34 : decode c_A_number 34 = .ok (.if_icmp .ne 7, 3) := by decide +kernel
theorem d_A_number_37 : decode c_A_number 37 = .ok (.iconst 1, 1) := by decide +kernel
theorem d_A_number_38 : decode c_A_number 38 = .ok (.goto 4, 3) := by decide +kernel
theorem d_A_number_41 : decode c_A_number 41 = .ok (.iconst 0, 1) := by decide +kernel
theorem d_A_number_42 : decode c_A_number 42 = .ok (.istore 4, 2) := by decide +kernel
theorem d_A_number_44 : decode c_A_number 44 = .ok (.iload 4, 2) := by decide +kernel
theorem d_A_number_46 : decode c_A_number 46 = .ok (.ifCond .eq 13, 3) := by decide +kernel
theorem d_A_number_49 : decode c_A_number 49 = .ok (.aload_n 0, 1) := by decide +kernel
theorem d_A_number_50 : decode c_A_number 50 = .ok (.dup, 1) := by decide +kernel
theorem d_A_number_51 : decode c_A_number 51 = .ok (.getfield 26, 3) := by decide +kernel
theorem d_A_number_54 : decode c_A_number 54 = .ok (.iconst 1, 1) := by decide +kernel
theorem d_A_number_55 : decode c_A_number 55 = .ok (.iadd, 1) := by decide +kernel
theorem d_A_number_56 : decode c_A_number 56 = .ok (.putfield 26, 3) := by decide +kernel
theorem d_A_number_59 : decode c_A_number 59 = .ok (.aload_n 0, 1) := by decide +kernel
theorem d_A_number_60 : decode c_A_number 60 = .ok (.bipush 9, 2) := by decide +kernel
theorem d_A_number_62 : decode c_A_number 62 = .ok (.invokevirtual 131, 3) := by decide +kernel
theorem d_A_number_65 : decode c_A_number 65 = .ok (.istore 5, 2) := by decide +kernel
theorem d_A_number_67 : decode c_A_number 67 = .ok (.iload 4, 2) := by decide +kernel
theorem d_A_number_69 : decode c_A_number 69 = .ok (.ifCond .eq 9, 3) := by decide +kernel
theorem d_A_number_72 : decode c_A_number 72 = .ok (.iload 5, 2) := by decide +kernel
theorem d_A_number_74 : decode c_A_number 74 = .ok (.ineg, 1) := by decide +kernel
theorem d_A_number_75 : decode c_A_number 75 = .ok (.goto 5, 3) := by decide +kernel
theorem d_A_number_78 : decode c_A_number 78 = .ok (.iload 5, 2) := by decide +kernel
theorem d_A_number_80 : decode c_A_number 80 = .ok (.istore 6, 2) := by decide +kernel
theorem d_A_number_82 : decode c_A_number 82 = .ok (.aload_n 0, 1) := by decide +kernel
theorem d_A_number_83 : decode c_A_number 83 = .ok (.iload 6, 2) := by decide +kernel
theorem d_A_number_85 : decode c_A_number 85 = .ok (.iload_n 1, 1) := by decide +kernel
theorem d_A_number_86 : decode c_A_number 86 = .ok (.iload_n 2, 1) := by decide +kernel
theorem d_A_number_87 : decode c_A_number 87 = .ok (.iload_n 3, 1) := by decide +kernel
theorem d_A_number_88 : decode c_A_number 88 = .ok (.invokevirtual 134, 3) := by decide +kernel
theorem d_A_number_91 : decode c_A_number 91 = .ok (.iload 6, 2) := by decide +kernel
theorem d_A_number_93 : decode c_A_number 93 = .ok (.iload_n 2, 1) := by decide +kernel
theorem d_A_number_94 : decode c_A_number 94 = .ok (.iload_n 1, 1) := by decide +kernel
theorem d_A_number_95 : decode c_A_number 95 = .ok (.isub, 1) := by decide +kernel
theorem d_A_number_96 : decode c_A_number 96 = .ok (.iand, 1) := by decide +kernel
theorem d_A_number_97 : decode c_A_number 97 = .ok (.ireturn, 1) := by decide +kernel
theorem kd_A_number : (y_A_number).cls = "WindowMachine$Assembler" ∧ (y_A_number).cls ≠ "java/lang/invoke/MethodHandle" ∧ (y_A_number).cls ≠ "java/lang/invoke/VarHandle" ∧ (parseMethodDescriptor (y_A_number).desc).map (fun d => d.parameters.length) = some 2 := by decide +kernel
def f_number (st : SA) (p0 : Int32) (p1 : Int32) : Int32 × SA := (let x_2 := (if (f_isGood st) = (0 : Int32) then (0 : Int32) else (if (st.1 0) ≤ (st.1 1) then (0 : Int32) else (if (st.2 (st.1 1).toNatClampNeg) = (45 : Int32) then (1 : Int32) else (0 : Int32)))); (let u_7 := (if x_2 = (0 : Int32) then st else (upd st.1 1 ((st.1 1) + (1 : Int32)), st.2)); (let r_10 := (f_digits u_7 (9 : Int32)).1; (let u_10 := (f_digits u_7 (9 : Int32)).2; (let x_11 := (if x_2 = (0 : Int32) then r_10 else -r_10); (let u_14 := f_checkRange u_10 x_11 p0 p1 (st.1 1); (x_11 &&& (p1 - p0), u_14)))))))
set_option maxHeartbeats 4000000 in
set_option maxRecDepth 100000 in
theorem mt_A_number (l : Launch) (D : va_G) (a b : Nat) (k : ClassId) (sz : Nat) (st : SA) (p0 : Int32) (p1 : Int32) (hA9 : okA st) : Met l y_A_number w_A_number ({ frames := 2, cells := 0, slots := 0, locals := 44 }) (va_Pc [.ref a, .int p0, .int p1] (zw_pre D vwCl [(k, .char)] sz (wA a b k st) (fun _ => True))) (va_Qi (fun r (u : SA) => r = (f_number st p0 p1).1 ∧ u = (f_number st p0 p1).2) (fun u t => zw_at D vwCl (va_A (wA a b k st) sz) ((fun (u : SA) => wA a b k u) u) t) (va_A (wA a b k st) sz)) 0 0 (va_A (wA a b k st) sz) := by
  refine zm (Qf := fun A => va_Qi (fun r (u : SA) => r = (f_number st p0 p1).1 ∧ u = (f_number st p0 p1).2) (fun u t => zw_at D vwCl A ((fun (u : SA) => wA a b k u) u) t) A) (Zf := fun _ _ => True) (cc := c_A_number) (nL := 7) (ret := (some .int)) (by decide) rfl (Nat.le_of_ble_eq_true rfl) ?_
  intro p e s m below meth c9 A H locs ls hx hb hml hown hts hr hlocks hA hK hP hD hS hZ hl
  have hl : lv_has ls 7 [(0, .ref a), (1, .int p0), (2, .int p1)] := hl
  have ht : ∀ w9 ∈ zT, w9.before _ s = true := fun w9 h9 => hts w9 (List.mem_cons_of_mem _ h9)
  refine lv_aload_n hx hb d_A_number_0 rfl (lv_at hl 0 rfl) ?_
  refine va_get (D := D) (ci := 0) (v := .int (st.1 1)) (C := "WindowMachine$Assembler") (T := T_A) (N := 5) hx hb ht zi_A hown hK hP 0 rfl rfl 2 (by decide) (ht _ zw_47) (fun _ h9 => h9) rfl d_A_number_1 ?_
  refine lv_istore_n (lv' := [(3, .int (st.1 1)), (0, .ref a), (1, .int p0), (2, .int p1)]) hx hb d_A_number_4 rfl hl (by decide) rfl (fun ls hl => ?_)
  refine lv_aload_n hx hb d_A_number_5 rfl (lv_at hl 1 rfl) ?_
  refine zc_i (w2 := fun _ => wA a b k st) (va_runV (As := []) (rest := []) ⟨hx, hb, hml, hown, ht⟩ (mt_A_isGood l D a b k H.size st) (cwV 0 ht (zgV zw_408 zw_410 zs_11 zw_3 zw_411) rfl rfl rfl kd_A_isGood ⟨Nat.le_of_ble_eq_true rfl, Nat.le_of_ble_eq_true rfl⟩) ⟨zw_blind zw_tt, va_recv (hK.sub (tys' := [(k, .char)]) [0] rfl) (hP.sub (ws' := wA a b k st) [0, 1] rfl) (ci := 0) (q0 := 0) rfl rfl, zw_go (hP.sub (ws' := wA a b k st) [0, 1] rfl) (hD.sub (ws' := wA a b k st) [0, 1] (by decide) rfl) (hK.sub (tys' := [(k, .char)]) [0] rfl) (fun _ _ _ => trivial)⟩ rfl rfl hl.1 rfl (lv_room (Nat.le_of_ble_eq_true rfl)) d_A_number_6 ⟨Nat.le_of_ble_eq_true rfl, Nat.le_of_ble_eq_true rfl⟩) hP hD hS hA [0, 1] [] [0, 1] rfl rfl (by decide) (by decide) (by decide) (fun _ => rfl) (fun r_1 _ H locs hw hP hD hS => ?_)
  subst hw
  refine zcut (X := Int32) (G := fun v9 H locs ls => v9 = (if (f_isGood st) = (0 : Int32) then (0 : Int32) else (if (st.1 0) ≤ (st.1 1) then (0 : Int32) else (if (st.2 (st.1 1).toNatClampNeg) = (45 : Int32) then (1 : Int32) else (0 : Int32)))) ∧ va_P D vwCl (wA a b k st) H ∧ va_D A (wA a b k st) ∧ va_S A s.heap H locs ∧ lv_has ls 7 [(0, .ref a), (1, .int p0), (2, .int p1), (3, .int (st.1 1))]) (fr := fun v9 ls => F0 m 42 ls [.int v9]) (fun J_3 => ?_) (fun v9 H locs ls hG => ?_)
  · refine lv_if_eq (tgt := 41) hx hb d_A_number_9 (by decide) (fun c_4 => ?_) (fun c_4 => ?_)
    · refine lv_iconst (v := (0 : Int32)) hx hb d_A_number_41 (by decide) ?_
      exact J_3 (0 : Int32) _ _ _ ⟨by simp only [if_pos c_4], hP, hD, hS, (lv_sub hl [1, 2, 3, 0] rfl)⟩
    refine lv_aload_n hx hb d_A_number_12 rfl (lv_at hl 1 rfl) ?_
    refine va_get (D := D) (ci := 0) (v := .int (st.1 1)) (C := "WindowMachine$Assembler") (T := T_A) (N := 5) hx hb ht zi_A hown hK hP 0 rfl rfl 2 (by decide) (ht _ zw_47) (fun _ h9 => h9) rfl d_A_number_13 ?_
    refine lv_aload_n hx hb d_A_number_16 rfl (lv_at hl 1 rfl) ?_
    refine va_get (D := D) (ci := 0) (v := .int (st.1 0)) (C := "WindowMachine$Assembler") (T := T_A) (N := 5) hx hb ht zi_A hown hK hP 0 rfl rfl 1 (by decide) (ht _ zw_46) (fun _ h9 => h9) rfl d_A_number_17 ?_
    refine lv_icmp_ge (tgt := 41) hx hb d_A_number_20 (by decide) (fun c_5 => ?_) (fun c_5 => ?_)
    · refine lv_iconst (v := (0 : Int32)) hx hb d_A_number_41 (by decide) ?_
      exact J_3 (0 : Int32) _ _ _ ⟨by simp only [if_neg c_4, if_pos c_5], hP, hD, hS, (lv_sub hl [1, 2, 3, 0] rfl)⟩
    refine lv_aload_n hx hb d_A_number_23 rfl (lv_at hl 1 rfl) ?_
    refine va_get (D := D) (ci := 0) (v := .ref b) (C := "WindowMachine$Assembler") (T := T_A) (N := 5) hx hb ht zi_A hown hK hP 0 rfl rfl 0 (by decide) (ht _ zw_44) (fun _ h9 => h9) rfl d_A_number_24 ?_
    refine lv_aload_n hx hb d_A_number_27 rfl (lv_at hl 1 rfl) ?_
    refine va_get (D := D) (ci := 0) (v := .int (st.1 1)) (C := "WindowMachine$Assembler") (T := T_A) (N := 5) hx hb ht zi_A hown hK hP 0 rfl rfl 2 (by decide) (ht _ zw_47) (fun _ h9 => h9) rfl d_A_number_28 ?_
    refine va_cald hx hb hK hP 1 0 rfl rfl (at_in hA9 c_5) d_A_number_31 ?_
    refine lv_bipush (v := (45 : Int32)) hx hb d_A_number_32 (by decide) ?_
    refine lv_icmp_ne (tgt := 41) hx hb d_A_number_34 (by decide) (fun c_6 => ?_) (fun c_6 => ?_)
    · refine lv_iconst (v := (0 : Int32)) hx hb d_A_number_41 (by decide) ?_
      exact J_3 (0 : Int32) _ _ _ ⟨by simp only [if_neg c_4, if_neg c_5, if_neg c_6], hP, hD, hS, (lv_sub hl [1, 2, 3, 0] rfl)⟩
    refine lv_iconst (v := (1 : Int32)) hx hb d_A_number_37 (by decide) ?_
    refine lv_goto (tgt := 42) hx hb d_A_number_38 (by decide) ?_
    exact J_3 (1 : Int32) _ _ _ ⟨by simp only [if_neg c_4, if_neg c_5, if_pos c_6], hP, hD, hS, (lv_sub hl [1, 2, 3, 0] rfl)⟩
  obtain ⟨x_2, rfl⟩ : ∃ z, z = v9 := ⟨_, rfl⟩
  obtain ⟨ex_2, hP, hD, hS, hl⟩ := hG
  have zbx_2 : zB x_2 := by rw [ex_2]; repeat' first | exact zB0 | exact zB1 | assumption | apply zB_ite
  refine lv_istore (lv' := [(4, .int x_2), (0, .ref a), (1, .int p0), (2, .int p1), (3, .int (st.1 1))]) hx hb d_A_number_42 hl (by decide) rfl (fun ls hl => ?_)
  refine lv_iload hx hb d_A_number_44 (lv_at hl 0 rfl) ?_
  refine zcut (X := SA) (G := fun v9 H locs ls => v9 = (if x_2 = (0 : Int32) then st else (upd st.1 1 ((st.1 1) + (1 : Int32)), st.2)) ∧ va_P D vwCl (wA a b k v9) H ∧ va_D A (wA a b k v9) ∧ va_S A s.heap H locs ∧ lv_has ls 7 [(0, .ref a), (1, .int p0), (2, .int p1), (3, .int (st.1 1)), (4, .int x_2)]) (fr := fun v9 ls => F0 m 59 ls []) (fun J_8 => ?_) (fun v9 H locs ls hG => ?_)
  · refine lv_if_eq (tgt := 59) hx hb d_A_number_46 (by decide) (fun c_9 => ?_) (fun c_9 => ?_)
    · exact J_8 st _ _ _ ⟨by simp only [if_pos c_9], hP, hD, hS, (lv_sub hl [1, 2, 3, 4, 0] rfl)⟩
    refine lv_aload_n hx hb d_A_number_49 rfl (lv_at hl 1 rfl) ?_
    refine lv_dup hx hb d_A_number_50 rfl ?_
    refine va_get (D := D) (ci := 0) (v := .int (st.1 1)) (C := "WindowMachine$Assembler") (T := T_A) (N := 5) hx hb ht zi_A hown hK hP 0 rfl rfl 2 (by decide) (ht _ zw_47) (fun _ h9 => h9) rfl d_A_number_51 ?_
    refine lv_iconst (v := (1 : Int32)) hx hb d_A_number_54 (by decide) ?_
    refine lv_iadd hx hb d_A_number_55 ?_
    refine va_put (D := D) (ci := 0) (v := .int ((st.1 1) + (1 : Int32))) (ty := .int) (C := "WindowMachine$Assembler") (T := T_A) (N := 5) hx hb ht zi_A ty_A tyok_A nm_A hown hK hP hD hS 0 rfl rfl 2 (by decide) (ht _ zw_47) (fun _ h9 => h9) rfl (by decide +kernel) rfl rfl (Nat.le_of_ble_eq_true rfl) d_A_number_56 (fun H locs hP hD hS => ?_)
    have hP : va_P D vwCl (wA a b k (upd st.1 1 ((st.1 1) + (1 : Int32)), st.2)) H := hP
    have hD : va_D A (wA a b k (upd st.1 1 ((st.1 1) + (1 : Int32)), st.2)) := hD
    exact J_8 (upd st.1 1 ((st.1 1) + (1 : Int32)), st.2) _ _ _ ⟨by simp only [if_neg c_9], hP, hD, hS, (lv_sub hl [1, 2, 3, 4, 0] rfl)⟩
  obtain ⟨u_7, rfl⟩ : ∃ z, z = v9 := ⟨_, rfl⟩
  obtain ⟨eu_7, hP, hD, hS, hl⟩ := hG
  have ok_7 : okA u_7 := by rw [eu_7]; (repeat' split) <;> first | exact hA9 | exact (ok_at hA9 (neg_at ex_2 ‹_›))
  refine lv_aload_n hx hb d_A_number_59 rfl (lv_at hl 0 rfl) ?_
  refine lv_bipush (v := (9 : Int32)) hx hb d_A_number_60 (by decide) ?_
  refine zc_i (w2 := fun u9 => wA a b k u9) (va_runV (As := [.int (9 : Int32)]) (rest := []) ⟨hx, hb, hml, hown, ht⟩ (mt_A_digits l D a b k H.size u_7 (9 : Int32) ok_7) (cwV 1 ht (zgV zw_420 zw_422 zs_14 zw_3 zw_423) rfl rfl rfl kd_A_digits ⟨Nat.le_of_ble_eq_true rfl, Nat.le_of_ble_eq_true rfl⟩) ⟨zw_blind zw_tt, va_recv (hK.sub (tys' := [(k, .char)]) [0] rfl) (hP.sub (ws' := wA a b k u_7) [0, 1] rfl) (ci := 0) (q0 := 0) rfl rfl, zw_go (hP.sub (ws' := wA a b k u_7) [0, 1] rfl) (hD.sub (ws' := wA a b k u_7) [0, 1] (by decide) rfl) (hK.sub (tys' := [(k, .char)]) [0] rfl) (fun _ _ _ => trivial)⟩ rfl rfl hl.1 rfl (lv_room (Nat.le_of_ble_eq_true rfl)) d_A_number_62 ⟨Nat.le_of_ble_eq_true rfl, Nat.le_of_ble_eq_true rfl⟩) hP hD hS hA [0, 1] [] [0, 1] rfl rfl (by decide) (by decide) (by decide) (fun _ => rfl) (fun r_10 u_10 H locs hw hP hD hS => ?_)
  obtain ⟨er_10, eu_10⟩ := hw
  have ok_10 : okA u_10 := by rw [eu_10]; exact (ok_digits ok_7)
  refine lv_istore (lv' := [(5, .int r_10), (0, .ref a), (1, .int p0), (2, .int p1), (3, .int (st.1 1)), (4, .int x_2)]) hx hb d_A_number_65 hl (by decide) rfl (fun ls hl => ?_)
  refine lv_iload hx hb d_A_number_67 (lv_at hl 5 rfl) ?_
  refine zcut (X := Int32) (G := fun v9 H locs ls => v9 = (if x_2 = (0 : Int32) then r_10 else -r_10) ∧ va_P D vwCl (wA a b k u_10) H ∧ va_D A (wA a b k u_10) ∧ va_S A s.heap H locs ∧ lv_has ls 7 [(0, .ref a), (1, .int p0), (2, .int p1), (3, .int (st.1 1)), (4, .int x_2), (5, .int r_10)]) (fr := fun v9 ls => F0 m 80 ls [.int v9]) (fun J_12 => ?_) (fun v9 H locs ls hG => ?_)
  · refine lv_if_eq (tgt := 78) hx hb d_A_number_69 (by decide) (fun c_13 => ?_) (fun c_13 => ?_)
    · refine lv_iload hx hb d_A_number_78 (lv_at hl 0 rfl) ?_
      exact J_12 r_10 _ _ _ ⟨by simp only [if_pos c_13], hP, hD, hS, (lv_sub hl [1, 2, 3, 4, 5, 0] rfl)⟩
    refine lv_iload hx hb d_A_number_72 (lv_at hl 0 rfl) ?_
    refine lv_ineg hx hb d_A_number_74 ?_
    refine lv_goto (tgt := 80) hx hb d_A_number_75 (by decide) ?_
    exact J_12 (-r_10) _ _ _ ⟨by simp only [if_neg c_13], hP, hD, hS, (lv_sub hl [1, 2, 3, 4, 5, 0] rfl)⟩
  obtain ⟨x_11, rfl⟩ : ∃ z, z = v9 := ⟨_, rfl⟩
  obtain ⟨ex_11, hP, hD, hS, hl⟩ := hG
  refine lv_istore (lv' := [(6, .int x_11), (0, .ref a), (1, .int p0), (2, .int p1), (3, .int (st.1 1)), (4, .int x_2), (5, .int r_10)]) hx hb d_A_number_80 hl (by decide) rfl (fun ls hl => ?_)
  refine lv_aload_n hx hb d_A_number_82 rfl (lv_at hl 1 rfl) ?_
  refine lv_iload hx hb d_A_number_83 (lv_at hl 0 rfl) ?_
  refine lv_iload_n hx hb d_A_number_85 rfl (lv_at hl 2 rfl) ?_
  refine lv_iload_n hx hb d_A_number_86 rfl (lv_at hl 3 rfl) ?_
  refine lv_iload_n hx hb d_A_number_87 rfl (lv_at hl 4 rfl) ?_
  refine zc_v (w2 := fun u9 => wA a b k u9) (va_runV (As := [.int x_11, .int p0, .int p1, .int (st.1 1)]) (rest := []) ⟨hx, hb, hml, hown, ht⟩ (mt_A_checkRange l D a b k H.size u_10 x_11 p0 p1 (st.1 1) ok_10) (cwV 4 ht (zgV zw_424 zw_426 zs_15 zw_3 zw_427) rfl rfl rfl kd_A_checkRange ⟨Nat.le_of_ble_eq_true rfl, Nat.le_of_ble_eq_true rfl⟩) ⟨zw_blind zw_tt, va_recv (hK.sub (tys' := [(k, .char)]) [0] rfl) (hP.sub (ws' := wA a b k u_10) [0, 1] rfl) (ci := 0) (q0 := 0) rfl rfl, zw_go (hP.sub (ws' := wA a b k u_10) [0, 1] rfl) (hD.sub (ws' := wA a b k u_10) [0, 1] (by decide) rfl) (hK.sub (tys' := [(k, .char)]) [0] rfl) (fun _ _ _ => trivial)⟩ rfl rfl hl.1 rfl (lv_room (Nat.le_of_ble_eq_true rfl)) d_A_number_88 ⟨Nat.le_of_ble_eq_true rfl, Nat.le_of_ble_eq_true rfl⟩) hP hD hS hA [0, 1] [] [0, 1] rfl rfl (by decide) (by decide) (by decide) (fun _ => rfl) (fun u_14 H locs hw hP hD hS => ?_)
  have eu_14 := hw
  have ok_14 : okA u_14 := by rw [eu_14]; exact (ok_checkRange ok_10)
  refine lv_iload hx hb d_A_number_91 (lv_at hl 0 rfl) ?_
  refine lv_iload_n hx hb d_A_number_93 rfl (lv_at hl 3 rfl) ?_
  refine lv_iload_n hx hb d_A_number_94 rfl (lv_at hl 2 rfl) ?_
  refine lv_isub hx hb d_A_number_95 ?_
  refine lv_iand hx hb d_A_number_96 ?_
  exact zl_i (u := u_14) hx hb hr hlocks hS hP hD (⟨by simp only [f_number, ← ex_2, ← eu_7, ← er_10, ← eu_10, ← ex_11, ← eu_14], by simp only [f_number, ← ex_2, ← eu_7, ← er_10, ← eu_10, ← ex_11, ← eu_14]⟩) d_A_number_97
theorem ok_number {st : SA} {a b : Int32} (h : okA st) : okA (f_number st a b).2 := by
  unfold f_number
  dsimp only
  refine ok_checkRange (ok_digits ?_)
  by_cases c : (if f_isGood st = (0 : Int32) then (0 : Int32) else (if (st.1 0) ≤ (st.1 1) then (0 : Int32) else (if (st.2 (st.1 1).toNatClampNeg) = (45 : Int32) then (1 : Int32) else (0 : Int32)))) = (0 : Int32)
  · rw [if_pos c]; exact h
  · rw [if_neg c]; exact ok_at h (neg_at rfl c)
