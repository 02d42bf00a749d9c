theorem d_A_digits_0 : decode c_A_digits 0 = .ok (.aload_n 0, 1) := by decide +kernel
theorem d_A_digits_1 : decode c_A_digits 1 = .ok (.invokevirtual 36, 3) := by decide +kernel
theorem d_A_digits_4 : decode c_A_digits 4 = .ok (.ifCond .ne 5, 3) := by decide +kernel
theorem d_A_digits_7 : decode c_A_digits 7 = .ok (.iconst 0, 1) := by decide +kernel
theorem d_A_digits_8 : decode c_A_digits 8 = .ok (.ireturn, 1) := by decide +kernel
theorem d_A_digits_9 : decode c_A_digits 9 = .ok (.aload_n 0, 1) := by decide +kernel
theorem d_A_digits_10 : decode c_A_digits 10 = .ok (.getfield 26, 3) := by decide +kernel
theorem d_A_digits_13 : decode c_A_digits 13 = .ok (.istore_n 2, 1) := by decide +kernel
theorem d_A_digits_14 : decode c_A_digits 14 = .ok (.iconst 0, 1) := by decide +kernel
theorem d_A_digits_15 : decode c_A_digits 15 = .ok (.istore_n 3, 1) := by decide +kernel
theorem d_A_digits_16 : decode c_A_digits 16 = .ok (.aload_n 0, 1) := by decide +kernel
theorem d_A_digits_17 : decode c_A_digits 17 = .ok (.getfield 26, 3) := by decide +kernel
theorem d_A_digits_20 : decode c_A_digits 20 = .ok (.aload_n 0, 1) := by decide +kernel
theorem d_A_digits_21 : decode c_A_digits 21 = .ok (.getfield 23, 3) := by decide +kernel
theorem d_A_digits_24 : decode c_A_digits 24 = .ok (.if_icmp .ge 72, 3) := by decide +kernel
theorem d_A_digits_27 : decode c_A_digits 27 = .ok (.aload_n 0, 1) := by decide +kernel
theorem d_A_digits_28 : decode c_A_digits 28 = .ok (.getfield 26, 3) := by decide +kernel
theorem d_A_digits_31 : decode c_A_digits 31 = .ok (.iload_n 2, 1) := by decide +kernel
theorem d_A_digits_32 : decode c_A_digits 32 = .ok (.isub, 1) := by decide +kernel
theorem d_A_digits_33 : decode c_A_digits 33 = .ok (.iload_n 1, 1) := by decide +kernel
theorem d_A_digits_34 : decode c_A_digits 34 = .ok (.if_icmp .ge 62, 3) := by decide +kernel
theorem d_A_digits_37 : decode c_A_digits 37 = .ok (.aload_n 0, 1) := by decide +kernel
theorem d_A_digits_38 : decode c_A_digits 38 = .ok (.getfield 11, 3) := by decide +kernel
theorem d_A_digits_41 : decode c_A_digits 41 = .ok (.aload_n 0, 1) := by decide +kernel
theorem d_A_digits_42 : decode c_A_digits 42 = .ok (.getfield 26, 3) := by decide +kernel
theorem d_A_digits_45 : decode c_A_digits 45 = .ok (.caload, 1) := by decide +kernel
theorem d_A_digits_46 : decode c_A_digits 46 = .ok (.bipush 48, 2) := by decide +kernel
theorem d_A_digits_48 : decode c_A_digits 48 = .ok (.if_icmp .lt 48, 3) := by decide +kernel
theorem d_A_digits_51 : decode c_A_digits 51 = .ok (.aload_n 0, 1) := by decide +kernel
theorem d_A_digits_52 : decode c_A_digits 52 = .ok (.getfield 11, 3) := by decide +kernel
theorem d_A_digits_55 : decode c_A_digits 55 = .ok (.aload_n 0, 1) := by decide +kernel
theorem d_A_digits_56 : decode c_A_digits 56 = .ok (.getfield 26, 3) := by decide +kernel
theorem d_A_digits_59 : decode c_A_digits 59 = .ok (.caload, 1) := by decide +kernel
theorem d_A_digits_60 : decode c_A_digits 60 = .ok (.bipush 57, 2) := by decide +kernel
theorem d_A_digits_62 : decode c_A_digits 62 = .ok (.if_icmp .gt 34, 3) := by decide +kernel
theorem d_A_digits_65 : decode c_A_digits 65 = .ok (.bipush 10, 2) := by decide +kernel
theorem d_A_digits_67 : decode c_A_digits 67 = .ok (.iload_n 3, 1) := by decide +kernel
theorem d_A_digits_68 : decode c_A_digits 68 = .ok (.imul, 1) := by decide +kernel
theorem d_A_digits_69 : decode c_A_digits 69 = .ok (.aload_n 0, 1) := by decide +kernel
theorem d_A_digits_70 : decode c_A_digits 70 = .ok (.getfield 11, 3) := by decide +kernel
theorem d_A_digits_73 : decode c_A_digits 73 = .ok (.aload_n 0, 1) := by decide +kernel
theorem d_A_digits_74 : decode c_A_digits 74 = .ok (.getfield 26, 3) := by decide +kernel
theorem d_A_digits_77 : decode c_A_digits 77 = .ok (.caload, 1) := by decide +kernel
theorem d_A_digits_78 : decode c_A_digits 78 = .ok (.iadd, 1) := by decide +kernel
theorem d_A_digits_79 : decode c_A_digits 79 = .ok (.bipush 48, 2) := by decide +kernel
theorem d_A_digits_81 : decode c_A_digits 81 = .ok (.isub, 1) := by decide +kernel
theorem d_A_digits_82 : decode c_A_digits 82 = .ok (.istore_n 3, 1) := by decide +kernel
theorem d_A_digits_83 : decode c_A_digits 83 = .ok (.aload_n 0, 1) := by decide +kernel
theorem d_A_digits_84 : decode c_A_digits 84 = .ok (.dup, 1) := by decide +kernel
theorem d_A_digits_85 : decode c_A_digits 85 = .ok (.getfield 26, 3) := by decide +kernel
theorem d_A_digits_88 : decode c_A_digits 88 = .ok (.iconst 1, 1) := by decide +kernel
theorem d_A_digits_89 : decode c_A_digits 89 = .ok (.iadd, 1) := by decide +kernel
theorem d_A_digits_90 : decode c_A_digits 90 = .ok (.putfield 26, 3) := by decide +kernel
theorem d_A_digits_93 : decode c_A_digits 93 = .ok (.goto (-77), 3) := by decide +kernel
theorem d_A_digits_96 : decode c_A_digits 96 = .ok (.aload_n 0, 1) := by decide +kernel
theorem d_A_digits_97 : decode c_A_digits 97 = .ok (.getfield 26, 3) := by decide +kernel
theorem d_A_digits_100 : decode c_A_digits 100 = .ok (.iload_n 2, 1) := by decide +kernel
theorem d_A_digits_101 : decode c_A_digits 101 = .ok (.if_icmp .ne 11, 3) := by decide +kernel
theorem d_A_digits_104 : decode c_A_digits 104 = .ok (.aload_n 0, 1) := by decide +kernel
theorem d_A_digits_105 : decode c_A_digits 105 = .ok (.aload_n 0, 1) := by decide +kernel
theorem d_A_digits_106 : decode c_A_digits 106 = .ok (.getfield 26, 3) := by decide +kernel
theorem d_A_digits_109 : decode c_A_digits 109 = .ok (.putfield 15, 3) := by decide +kernel
theorem d_A_digits_112 : decode c_A_digits 112 = .ok (.iload_n 3, 1) := by decide +kernel
theorem d_A_digits_113 : decode c_A_digits 113 = .ok (.ireturn, 1) := by decide +kernel
theorem kd_A_digits : (y_A_digits).cls = "WindowMachine$Assembler" ∧ (y_A_digits).cls ≠ "java/lang/invoke/MethodHandle" ∧ (y_A_digits).cls ≠ "java/lang/invoke/VarHandle" ∧ (parseMethodDescriptor (y_A_digits).desc).map (fun d => d.parameters.length) = some 1 := by decide +kernel
def fl_A_digits_16 (st : SA) (p0 : Int32) : Nat → Int32 → SA → Int32 × SA
  | 0, _, u_4 => (0, u_4)
  | n9 + 1, x_3, u_4 => (if (u_4.1 0) ≤ (u_4.1 1) then (if (u_4.1 1) = (st.1 1) then (x_3, (upd u_4.1 2 (u_4.1 1), u_4.2)) else (x_3, u_4)) else (if p0 ≤ ((u_4.1 1) - (st.1 1)) then (if (u_4.1 1) = (st.1 1) then (x_3, (upd u_4.1 2 (u_4.1 1), u_4.2)) else (x_3, u_4)) else (if (u_4.2 (u_4.1 1).toNatClampNeg) < (48 : Int32) then (if (u_4.1 1) = (st.1 1) then (x_3, (upd u_4.1 2 (u_4.1 1), u_4.2)) else (x_3, u_4)) else (if (57 : Int32) < (u_4.2 (u_4.1 1).toNatClampNeg) then (if (u_4.1 1) = (st.1 1) then (x_3, (upd u_4.1 2 (u_4.1 1), u_4.2)) else (x_3, u_4)) else (let x_14 := (((10 : Int32) * x_3) + (u_4.2 (u_4.1 1).toNatClampNeg)) - (48 : Int32); fl_A_digits_16 st p0 n9 x_14 (upd u_4.1 1 ((u_4.1 1) + (1 : Int32)), u_4.2))))))
def f_digits (st : SA) (p0 : Int32) : Int32 × SA := (if (f_isGood st) = (0 : Int32) then ((0 : Int32), st) else fl_A_digits_16 st p0 41 (0 : Int32) st)
set_option maxHeartbeats 4000000 in
set_option maxRecDepth 100000 in
theorem mt_A_digits (l : Launch) (D : va_G) (a b : Nat) (k : ClassId) (sz : Nat) (st : SA) (p0 : Int32) (hA9 : okA st) : Met l y_A_digits w_A_digits ({ frames := 1, cells := 0, slots := 0, locals := 20 }) (va_Pc [.ref a, .int p0] (zw_pre D vwCl [(k, .char)] sz (wA a b k st) (fun _ => True))) (va_Qi (fun r (u : SA) => r = (f_digits st p0).1 ∧ u = (f_digits st p0).2) (fun u t => zw_at D vwCl (va_A (wA a b k st) sz) ((fun (u : SA) => wA a b k u) u) t) (va_A (wA a b k st) sz)) 0 0 (va_A (wA a b k st) sz) := by
  refine zm (Qf := fun A => va_Qi (fun r (u : SA) => r = (f_digits st p0).1 ∧ u = (f_digits st p0).2) (fun u t => zw_at D vwCl A ((fun (u : SA) => wA a b k u) u) t) A) (Zf := fun _ _ => True) (cc := c_A_digits) (nL := 4) (ret := (some .int)) (by decide) rfl (Nat.le_of_ble_eq_true rfl) ?_
  intro p e s m below meth c9 A H locs ls hx hb hml hown hts hr hlocks hA hK hP hD hS hZ hl
  have hl : lv_has ls 4 [(0, .ref a), (1, .int p0)] := hl
  have ht : ∀ w9 ∈ zT, w9.before _ s = true := fun w9 h9 => hts w9 (List.mem_cons_of_mem _ h9)
  refine lv_aload_n hx hb d_A_digits_0 rfl (lv_at hl 0 rfl) ?_
  refine zc_i (w2 := fun _ => wA a b k st) (va_runV (As := []) (rest := []) ⟨hx, hb, hml, hown, ht⟩ (mt_A_isGood l D a b k H.size st) (cwV 0 ht (zgV zw_408 zw_410 zs_11 zw_3 zw_411) rfl rfl rfl kd_A_isGood ⟨Nat.le_of_ble_eq_true rfl, Nat.le_of_ble_eq_true rfl⟩) ⟨zw_blind zw_tt, va_recv (hK.sub (tys' := [(k, .char)]) [0] rfl) (hP.sub (ws' := wA a b k st) [0, 1] rfl) (ci := 0) (q0 := 0) rfl rfl, zw_go (hP.sub (ws' := wA a b k st) [0, 1] rfl) (hD.sub (ws' := wA a b k st) [0, 1] (by decide) rfl) (hK.sub (tys' := [(k, .char)]) [0] rfl) (fun _ _ _ => trivial)⟩ rfl rfl hl.1 rfl (lv_room (Nat.le_of_ble_eq_true rfl)) d_A_digits_1 ⟨Nat.le_of_ble_eq_true rfl, Nat.le_of_ble_eq_true rfl⟩) hP hD hS hA [0, 1] [] [0, 1] rfl rfl (by decide) (by decide) (by decide) (fun _ => rfl) (fun r_1 _ H locs hw hP hD hS => ?_)
  subst hw
  refine lv_if_ne (tgt := 9) hx hb d_A_digits_4 (by decide) (fun c_2 => ?_) (fun c_2 => ?_)
  · refine lv_aload_n hx hb d_A_digits_9 rfl (lv_at hl 0 rfl) ?_
    refine va_get (D := D) (ci := 0) (v := .int (st.1 1)) (C := "WindowMachine$Assembler") (T := T_A) (N := 5) hx hb ht zi_A hown hK hP 0 rfl rfl 2 (by decide) (ht _ zw_47) (fun _ h9 => h9) rfl d_A_digits_10 ?_
    refine lv_istore_n (lv' := [(2, .int (st.1 1)), (0, .ref a), (1, .int p0)]) hx hb d_A_digits_13 rfl hl (by decide) rfl (fun ls hl => ?_)
    refine lv_iconst (v := (0 : Int32)) hx hb d_A_digits_14 (by decide) ?_
    refine lv_istore_n (lv' := [(3, .int (0 : Int32)), (2, .int (st.1 1)), (0, .ref a), (1, .int p0)]) hx hb d_A_digits_15 rfl hl (by decide) rfl (fun ls hl => ?_)
    refine zloop (X := Int32 × SA) (G := fun n9 v9 H locs ls => f_digits st p0 = fl_A_digits_16 st p0 n9 v9.1 v9.2 ∧ (okA v9.2 ∧ ((v9.2).1 1).toInt + (n9 : Int) = (st.1 1).toInt + 41) ∧ va_P D vwCl (wA a b k v9.2) H ∧ va_D A (wA a b k v9.2) ∧ va_S A s.heap H locs ∧ lv_has ls 4 [(0, .ref a), (1, .int p0), (2, .int (st.1 1)), (3, .int v9.1)]) (fr := fun v9 ls => F0 m 16 ls []) (n := 41) (v := ((0 : Int32), st)) (fun n9 ih v9 H locs ls hG => ?_) (fun v9 H locs ls hG => ?_) ⟨(by simp only [f_digits, if_neg c_2]), ⟨hA9, by dsimp only; omega⟩, hP, hD, hS, (lv_sub hl [2, 3, 1, 0] rfl)⟩
    · obtain ⟨x_3, u_4⟩ := v9
      obtain ⟨hF_5, hI, hP, hD, hS, hl⟩ := hG
      dsimp only at hF_5 hI hP hD hl
      refine lv_aload_n hx hb d_A_digits_16 rfl (lv_at hl 0 rfl) ?_
      refine va_get (D := D) (ci := 0) (v := .int (u_4.1 1)) (C := "WindowMachine$Assembler") (T := T_A) (N := 5) hx hb ht zi_A hown hK hP 0 rfl rfl 2 (by decide) (ht _ zw_47) (fun _ h9 => h9) rfl d_A_digits_17 ?_
      refine lv_aload_n hx hb d_A_digits_20 rfl (lv_at hl 0 rfl) ?_
      refine va_get (D := D) (ci := 0) (v := .int (u_4.1 0)) (C := "WindowMachine$Assembler") (T := T_A) (N := 5) hx hb ht zi_A hown hK hP 0 rfl rfl 1 (by decide) (ht _ zw_46) (fun _ h9 => h9) rfl d_A_digits_21 ?_
      refine lv_icmp_ge (tgt := 96) hx hb d_A_digits_24 (by decide) (fun c_6 => ?_) (fun c_6 => ?_)
      · refine lv_aload_n hx hb d_A_digits_96 rfl (lv_at hl 0 rfl) ?_
        refine va_get (D := D) (ci := 0) (v := .int (u_4.1 1)) (C := "WindowMachine$Assembler") (T := T_A) (N := 5) hx hb ht zi_A hown hK hP 0 rfl rfl 2 (by decide) (ht _ zw_47) (fun _ h9 => h9) rfl d_A_digits_97 ?_
        refine lv_iload_n hx hb d_A_digits_100 rfl (lv_at hl 2 rfl) ?_
        refine lv_icmp_ne (tgt := 112) hx hb d_A_digits_101 (by decide) (fun c_7 => ?_) (fun c_7 => ?_)
        · refine lv_iload_n hx hb d_A_digits_112 rfl (lv_at hl 3 rfl) ?_
          exact zl_i (u := u_4) hx hb hr hlocks hS hP hD (⟨by rw [hF_5]; simp only [fl_A_digits_16, if_pos c_6, if_neg c_7], by rw [hF_5]; simp only [fl_A_digits_16, if_pos c_6, if_neg c_7]⟩) d_A_digits_113
        refine lv_aload_n hx hb d_A_digits_104 rfl (lv_at hl 0 rfl) ?_
        refine lv_aload_n hx hb d_A_digits_105 rfl (lv_at hl 0 rfl) ?_
        refine va_get (D := D) (ci := 0) (v := .int (u_4.1 1)) (C := "WindowMachine$Assembler") (T := T_A) (N := 5) hx hb ht zi_A hown hK hP 0 rfl rfl 2 (by decide) (ht _ zw_47) (fun _ h9 => h9) rfl d_A_digits_106 ?_
        refine va_put (D := D) (ci := 0) (v := .int (u_4.1 1)) (ty := .int) (C := "WindowMachine$Assembler") (T := T_A) (N := 5) hx hb ht zi_A ty_A tyok_A nm_A hown hK hP hD hS 0 rfl rfl 3 (by decide) (ht _ zw_48) (fun _ h9 => h9) rfl (by decide +kernel) rfl rfl (Nat.le_of_ble_eq_true rfl) d_A_digits_109 (fun H locs hP hD hS => ?_)
        have hP : va_P D vwCl (wA a b k (upd u_4.1 2 (u_4.1 1), u_4.2)) H := hP
        have hD : va_D A (wA a b k (upd u_4.1 2 (u_4.1 1), u_4.2)) := hD
        refine lv_iload_n hx hb d_A_digits_112 rfl (lv_at hl 3 rfl) ?_
        exact zl_i (u := (upd u_4.1 2 (u_4.1 1), u_4.2)) hx hb hr hlocks hS hP hD (⟨by rw [hF_5]; simp only [fl_A_digits_16, if_pos c_6, if_pos c_7], by rw [hF_5]; simp only [fl_A_digits_16, if_pos c_6, if_pos c_7]⟩) d_A_digits_113
      refine lv_aload_n hx hb d_A_digits_27 rfl (lv_at hl 0 rfl) ?_
      refine va_get (D := D) (ci := 0) (v := .int (u_4.1 1)) (C := "WindowMachine$Assembler") (T := T_A) (N := 5) hx hb ht zi_A hown hK hP 0 rfl rfl 2 (by decide) (ht _ zw_47) (fun _ h9 => h9) rfl d_A_digits_28 ?_
      refine lv_iload_n hx hb d_A_digits_31 rfl (lv_at hl 2 rfl) ?_
      refine lv_isub hx hb d_A_digits_32 ?_
      refine lv_iload_n hx hb d_A_digits_33 rfl (lv_at hl 1 rfl) ?_
      refine lv_icmp_ge (tgt := 96) hx hb d_A_digits_34 (by decide) (fun c_8 => ?_) (fun c_8 => ?_)
      · refine lv_aload_n hx hb d_A_digits_96 rfl (lv_at hl 0 rfl) ?_
        refine va_get (D := D) (ci := 0) (v := .int (u_4.1 1)) (C := "WindowMachine$Assembler") (T := T_A) (N := 5) hx hb ht zi_A hown hK hP 0 rfl rfl 2 (by decide) (ht _ zw_47) (fun _ h9 => h9) rfl d_A_digits_97 ?_
        refine lv_iload_n hx hb d_A_digits_100 rfl (lv_at hl 2 rfl) ?_
        refine lv_icmp_ne (tgt := 112) hx hb d_A_digits_101 (by decide) (fun c_9 => ?_) (fun c_9 => ?_)
        · refine lv_iload_n hx hb d_A_digits_112 rfl (lv_at hl 3 rfl) ?_
          exact zl_i (u := u_4) hx hb hr hlocks hS hP hD (⟨by rw [hF_5]; simp only [fl_A_digits_16, if_neg c_6, if_pos c_8, if_neg c_9], by rw [hF_5]; simp only [fl_A_digits_16, if_neg c_6, if_pos c_8, if_neg c_9]⟩) d_A_digits_113
        refine lv_aload_n hx hb d_A_digits_104 rfl (lv_at hl 0 rfl) ?_
        refine lv_aload_n hx hb d_A_digits_105 rfl (lv_at hl 0 rfl) ?_
        refine va_get (D := D) (ci := 0) (v := .int (u_4.1 1)) (C := "WindowMachine$Assembler") (T := T_A) (N := 5) hx hb ht zi_A hown hK hP 0 rfl rfl 2 (by decide) (ht _ zw_47) (fun _ h9 => h9) rfl d_A_digits_106 ?_
        refine va_put (D := D) (ci := 0) (v := .int (u_4.1 1)) (ty := .int) (C := "WindowMachine$Assembler") (T := T_A) (N := 5) hx hb ht zi_A ty_A tyok_A nm_A hown hK hP hD hS 0 rfl rfl 3 (by decide) (ht _ zw_48) (fun _ h9 => h9) rfl (by decide +kernel) rfl rfl (Nat.le_of_ble_eq_true rfl) d_A_digits_109 (fun H locs hP hD hS => ?_)
        have hP : va_P D vwCl (wA a b k (upd u_4.1 2 (u_4.1 1), u_4.2)) H := hP
        have hD : va_D A (wA a b k (upd u_4.1 2 (u_4.1 1), u_4.2)) := hD
        refine lv_iload_n hx hb d_A_digits_112 rfl (lv_at hl 3 rfl) ?_
        exact zl_i (u := (upd u_4.1 2 (u_4.1 1), u_4.2)) hx hb hr hlocks hS hP hD (⟨by rw [hF_5]; simp only [fl_A_digits_16, if_neg c_6, if_pos c_8, if_pos c_9], by rw [hF_5]; simp only [fl_A_digits_16, if_neg c_6, if_pos c_8, if_pos c_9]⟩) d_A_digits_113
      refine lv_aload_n hx hb d_A_digits_37 rfl (lv_at hl 0 rfl) ?_
      refine va_get (D := D) (ci := 0) (v := .ref b) (C := "WindowMachine$Assembler") (T := T_A) (N := 5) hx hb ht zi_A hown hK hP 0 rfl rfl 0 (by decide) (ht _ zw_44) (fun _ h9 => h9) rfl d_A_digits_38 ?_
      refine lv_aload_n hx hb d_A_digits_41 rfl (lv_at hl 0 rfl) ?_
      refine va_get (D := D) (ci := 0) (v := .int (u_4.1 1)) (C := "WindowMachine$Assembler") (T := T_A) (N := 5) hx hb ht zi_A hown hK hP 0 rfl rfl 2 (by decide) (ht _ zw_47) (fun _ h9 => h9) rfl d_A_digits_42 ?_
      refine va_cald hx hb hK hP 1 0 rfl rfl (at_in hI.1 c_6) d_A_digits_45 ?_
      refine lv_bipush (v := (48 : Int32)) hx hb d_A_digits_46 (by decide) ?_
      refine lv_icmp_lt (tgt := 96) hx hb d_A_digits_48 (by decide) (fun c_10 => ?_) (fun c_10 => ?_)
      · refine lv_aload_n hx hb d_A_digits_96 rfl (lv_at hl 0 rfl) ?_
        refine va_get (D := D) (ci := 0) (v := .int (u_4.1 1)) (C := "WindowMachine$Assembler") (T := T_A) (N := 5) hx hb ht zi_A hown hK hP 0 rfl rfl 2 (by decide) (ht _ zw_47) (fun _ h9 => h9) rfl d_A_digits_97 ?_
        refine lv_iload_n hx hb d_A_digits_100 rfl (lv_at hl 2 rfl) ?_
        refine lv_icmp_ne (tgt := 112) hx hb d_A_digits_101 (by decide) (fun c_11 => ?_) (fun c_11 => ?_)
        · refine lv_iload_n hx hb d_A_digits_112 rfl (lv_at hl 3 rfl) ?_
          exact zl_i (u := u_4) hx hb hr hlocks hS hP hD (⟨by rw [hF_5]; simp only [fl_A_digits_16, if_neg c_6, if_neg c_8, if_pos c_10, if_neg c_11], by rw [hF_5]; simp only [fl_A_digits_16, if_neg c_6, if_neg c_8, if_pos c_10, if_neg c_11]⟩) d_A_digits_113
        refine lv_aload_n hx hb d_A_digits_104 rfl (lv_at hl 0 rfl) ?_
        refine lv_aload_n hx hb d_A_digits_105 rfl (lv_at hl 0 rfl) ?_
        refine va_get (D := D) (ci := 0) (v := .int (u_4.1 1)) (C := "WindowMachine$Assembler") (T := T_A) (N := 5) hx hb ht zi_A hown hK hP 0 rfl rfl 2 (by decide) (ht _ zw_47) (fun _ h9 => h9) rfl d_A_digits_106 ?_
        refine va_put (D := D) (ci := 0) (v := .int (u_4.1 1)) (ty := .int) (C := "WindowMachine$Assembler") (T := T_A) (N := 5) hx hb ht zi_A ty_A tyok_A nm_A hown hK hP hD hS 0 rfl rfl 3 (by decide) (ht _ zw_48) (fun _ h9 => h9) rfl (by decide +kernel) rfl rfl (Nat.le_of_ble_eq_true rfl) d_A_digits_109 (fun H locs hP hD hS => ?_)
        have hP : va_P D vwCl (wA a b k (upd u_4.1 2 (u_4.1 1), u_4.2)) H := hP
        have hD : va_D A (wA a b k (upd u_4.1 2 (u_4.1 1), u_4.2)) := hD
        refine lv_iload_n hx hb d_A_digits_112 rfl (lv_at hl 3 rfl) ?_
        exact zl_i (u := (upd u_4.1 2 (u_4.1 1), u_4.2)) hx hb hr hlocks hS hP hD (⟨by rw [hF_5]; simp only [fl_A_digits_16, if_neg c_6, if_neg c_8, if_pos c_10, if_pos c_11], by rw [hF_5]; simp only [fl_A_digits_16, if_neg c_6, if_neg c_8, if_pos c_10, if_pos c_11]⟩) d_A_digits_113
      refine lv_aload_n hx hb d_A_digits_51 rfl (lv_at hl 0 rfl) ?_
      refine va_get (D := D) (ci := 0) (v := .ref b) (C := "WindowMachine$Assembler") (T := T_A) (N := 5) hx hb ht zi_A hown hK hP 0 rfl rfl 0 (by decide) (ht _ zw_44) (fun _ h9 => h9) rfl d_A_digits_52 ?_
      refine lv_aload_n hx hb d_A_digits_55 rfl (lv_at hl 0 rfl) ?_
      refine va_get (D := D) (ci := 0) (v := .int (u_4.1 1)) (C := "WindowMachine$Assembler") (T := T_A) (N := 5) hx hb ht zi_A hown hK hP 0 rfl rfl 2 (by decide) (ht _ zw_47) (fun _ h9 => h9) rfl d_A_digits_56 ?_
      refine va_cald hx hb hK hP 1 0 rfl rfl (at_in hI.1 c_6) d_A_digits_59 ?_
      refine lv_bipush (v := (57 : Int32)) hx hb d_A_digits_60 (by decide) ?_
      refine lv_icmp_gt (tgt := 96) hx hb d_A_digits_62 (by decide) (fun c_12 => ?_) (fun c_12 => ?_)
      · refine lv_aload_n hx hb d_A_digits_96 rfl (lv_at hl 0 rfl) ?_
        refine va_get (D := D) (ci := 0) (v := .int (u_4.1 1)) (C := "WindowMachine$Assembler") (T := T_A) (N := 5) hx hb ht zi_A hown hK hP 0 rfl rfl 2 (by decide) (ht _ zw_47) (fun _ h9 => h9) rfl d_A_digits_97 ?_
        refine lv_iload_n hx hb d_A_digits_100 rfl (lv_at hl 2 rfl) ?_
        refine lv_icmp_ne (tgt := 112) hx hb d_A_digits_101 (by decide) (fun c_13 => ?_) (fun c_13 => ?_)
        · refine lv_iload_n hx hb d_A_digits_112 rfl (lv_at hl 3 rfl) ?_
          exact zl_i (u := u_4) hx hb hr hlocks hS hP hD (⟨by rw [hF_5]; simp only [fl_A_digits_16, if_neg c_6, if_neg c_8, if_neg c_10, if_pos c_12, if_neg c_13], by rw [hF_5]; simp only [fl_A_digits_16, if_neg c_6, if_neg c_8, if_neg c_10, if_pos c_12, if_neg c_13]⟩) d_A_digits_113
        refine lv_aload_n hx hb d_A_digits_104 rfl (lv_at hl 0 rfl) ?_
        refine lv_aload_n hx hb d_A_digits_105 rfl (lv_at hl 0 rfl) ?_
        refine va_get (D := D) (ci := 0) (v := .int (u_4.1 1)) (C := "WindowMachine$Assembler") (T := T_A) (N := 5) hx hb ht zi_A hown hK hP 0 rfl rfl 2 (by decide) (ht _ zw_47) (fun _ h9 => h9) rfl d_A_digits_106 ?_
        refine va_put (D := D) (ci := 0) (v := .int (u_4.1 1)) (ty := .int) (C := "WindowMachine$Assembler") (T := T_A) (N := 5) hx hb ht zi_A ty_A tyok_A nm_A hown hK hP hD hS 0 rfl rfl 3 (by decide) (ht _ zw_48) (fun _ h9 => h9) rfl (by decide +kernel) rfl rfl (Nat.le_of_ble_eq_true rfl) d_A_digits_109 (fun H locs hP hD hS => ?_)
        have hP : va_P D vwCl (wA a b k (upd u_4.1 2 (u_4.1 1), u_4.2)) H := hP
        have hD : va_D A (wA a b k (upd u_4.1 2 (u_4.1 1), u_4.2)) := hD
        refine lv_iload_n hx hb d_A_digits_112 rfl (lv_at hl 3 rfl) ?_
        exact zl_i (u := (upd u_4.1 2 (u_4.1 1), u_4.2)) hx hb hr hlocks hS hP hD (⟨by rw [hF_5]; simp only [fl_A_digits_16, if_neg c_6, if_neg c_8, if_neg c_10, if_pos c_12, if_pos c_13], by rw [hF_5]; simp only [fl_A_digits_16, if_neg c_6, if_neg c_8, if_neg c_10, if_pos c_12, if_pos c_13]⟩) d_A_digits_113
      refine lv_bipush (v := (10 : Int32)) hx hb d_A_digits_65 (by decide) ?_
      refine lv_iload_n hx hb d_A_digits_67 rfl (lv_at hl 3 rfl) ?_
      refine lv_imul hx hb d_A_digits_68 ?_
      refine lv_aload_n hx hb d_A_digits_69 rfl (lv_at hl 0 rfl) ?_
      refine va_get (D := D) (ci := 0) (v := .ref b) (C := "WindowMachine$Assembler") (T := T_A) (N := 5) hx hb ht zi_A hown hK hP 0 rfl rfl 0 (by decide) (ht _ zw_44) (fun _ h9 => h9) rfl d_A_digits_70 ?_
      refine lv_aload_n hx hb d_A_digits_73 rfl (lv_at hl 0 rfl) ?_
      refine va_get (D := D) (ci := 0) (v := .int (u_4.1 1)) (C := "WindowMachine$Assembler") (T := T_A) (N := 5) hx hb ht zi_A hown hK hP 0 rfl rfl 2 (by decide) (ht _ zw_47) (fun _ h9 => h9) rfl d_A_digits_74 ?_
      refine va_cald hx hb hK hP 1 0 rfl rfl (at_in hI.1 c_6) d_A_digits_77 ?_
      refine lv_iadd hx hb d_A_digits_78 ?_
      refine lv_bipush (v := (48 : Int32)) hx hb d_A_digits_79 (by decide) ?_
      refine lv_isub hx hb d_A_digits_81 ?_
      refine lv_topi (fun x_14 ex_14 => ?_)
      refine lv_istore_n (lv' := [(3, .int x_14), (0, .ref a), (1, .int p0), (2, .int (st.1 1))]) hx hb d_A_digits_82 rfl hl (by decide) rfl (fun ls hl => ?_)
      refine lv_aload_n hx hb d_A_digits_83 rfl (lv_at hl 1 rfl) ?_
      refine lv_dup hx hb d_A_digits_84 rfl ?_
      refine va_get (D := D) (ci := 0) (v := .int (u_4.1 1)) (C := "WindowMachine$Assembler") (T := T_A) (N := 5) hx hb ht zi_A hown hK hP 0 rfl rfl 2 (by decide) (ht _ zw_47) (fun _ h9 => h9) rfl d_A_digits_85 ?_
      refine lv_iconst (v := (1 : Int32)) hx hb d_A_digits_88 (by decide) ?_
      refine lv_iadd hx hb d_A_digits_89 ?_
      refine va_put (D := D) (ci := 0) (v := .int ((u_4.1 1) + (1 : Int32))) (ty := .int) (C := "WindowMachine$Assembler") (T := T_A) (N := 5) hx hb ht zi_A ty_A tyok_A nm_A hown hK hP hD hS 0 rfl rfl 2 (by decide) (ht _ zw_47) (fun _ h9 => h9) rfl (by decide +kernel) rfl rfl (Nat.le_of_ble_eq_true rfl) d_A_digits_90 (fun H locs hP hD hS => ?_)
      have hP : va_P D vwCl (wA a b k (upd u_4.1 1 ((u_4.1 1) + (1 : Int32)), u_4.2)) H := hP
      have hD : va_D A (wA a b k (upd u_4.1 1 ((u_4.1 1) + (1 : Int32)), u_4.2)) := hD
      refine lv_goto (tgt := 16) hx hb d_A_digits_93 (by decide) ?_
      exact ih (x_14, (upd u_4.1 1 ((u_4.1 1) + (1 : Int32)), u_4.2)) _ _ _ ⟨by rw [hF_5]; simp only [fl_A_digits_16, ← ex_14, if_neg c_6, if_neg c_8, if_neg c_10, if_neg c_12], ⟨ok_at hI.1 c_6, at_back hI c_6⟩, hP, hD, hS, (lv_sub hl [1, 2, 3, 0] rfl)⟩
    · obtain ⟨x_3, u_4⟩ := v9
      obtain ⟨-, hI, -⟩ := hG
      dsimp only at hI
      exact (by obtain ⟨⟨h1, h2, h3⟩, h4⟩ := hI; have := hA9.1; omega)
  refine lv_iconst (v := (0 : Int32)) hx hb d_A_digits_7 (by decide) ?_
  exact zl_i (u := st) hx hb hr hlocks hS hP hD (⟨by simp only [f_digits, if_pos c_2], by simp only [f_digits, if_pos c_2]⟩) d_A_digits_8
theorem ok_digitsL {st : SA} {p : Int32} : ∀ (n : Nat) (x : Int32) (u : SA), okA u → okA (fl_A_digits_16 st p n x u).2 := by
  intro n
  induction n with
  | zero => intro x u h; exact h
  | succ n ih =>
    intro x u h
    unfold fl_A_digits_16
    split
    · split <;> exact h
    · split
      · split <;> exact h
      · split
        · split <;> exact h
        · split
          · split <;> exact h
          · exact ih _ _ (ok_at h ‹_›)
theorem ok_digits {st : SA} {p : Int32} (h : okA st) : okA (f_digits st p).2 := by
  unfold f_digits
  split
  · exact h
  · exact ok_digitsL _ _ _ h
