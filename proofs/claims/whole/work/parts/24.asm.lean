theorem d_A_operands_0 : decode c_A_operands 0 = .ok (.aload_n 0, 1) := by decide +kernel
theorem d_A_operands_1 : decode c_A_operands 1 = .ok (.getfield 47, 3) := by decide +kernel
theorem d_A_operands_4 : decode c_A_operands 4 = .ok (.ifCond .ne 5, 3) := by decide +kernel
theorem d_A_operands_7 : decode c_A_operands 7 = .ok (.iconst 0, 1) := by decide +kernel
theorem d_A_operands_8 : decode c_A_operands 8 = .ok (.ireturn, 1) := by decide +kernel
theorem d_A_operands_9 : decode c_A_operands 9 = .ok (.aload_n 0, 1) := by decide +kernel
theorem d_A_operands_10 : decode c_A_operands 10 = .ok (.bipush 32, 2) := by decide +kernel
theorem d_A_operands_12 : decode c_A_operands 12 = .ok (.invokevirtual 102, 3) := by decide +kernel
theorem d_A_operands_15 : decode c_A_operands 15 = .ok (.aload_n 0, 1) := by decide +kernel
theorem d_A_operands_16 : decode c_A_operands 16 = .ok (.getfield 47, 3) := by decide +kernel
theorem d_A_operands_19 : decode c_A_operands 19 = .ok (.tableswitch 101 1 6 #[37, 42, 47, 61, 75, 92], 37) := by decide +kernel
theorem d_A_operands_56 : decode c_A_operands 56 = .ok (.aload_n 0, 1) := by decide +kernel
theorem d_A_operands_57 : decode c_A_operands 57 = .ok (.invokevirtual 106, 3) := by decide +kernel
theorem d_A_operands_60 : decode c_A_operands 60 = .ok (.ireturn, 1) := by decide +kernel
theorem d_A_operands_61 : decode c_A_operands 61 = .ok (.aload_n 0, 1) := by decide +kernel
theorem d_A_operands_62 : decode c_A_operands 62 = .ok (.invokevirtual 109, 3) := by decide +kernel
theorem d_A_operands_65 : decode c_A_operands 65 = .ok (.ireturn, 1) := by decide +kernel
theorem d_A_operands_66 : decode c_A_operands 66 = .ok (.aload_n 0, 1) := by decide +kernel
theorem d_A_operands_67 : decode c_A_operands 67 = .ok (.aload_n 0, 1) := by decide +kernel
theorem d_A_operands_68 : decode c_A_operands 68 = .ok (.invokevirtual 109, 3) := by decide +kernel
theorem d_A_operands_71 : decode c_A_operands 71 = .ok (.invokevirtual 112, 3) := by decide +kernel
theorem d_A_operands_74 : decode c_A_operands 74 = .ok (.aload_n 0, 1) := by decide +kernel
theorem d_A_operands_75 : decode c_A_operands 75 = .ok (.invokevirtual 106, 3) := by decide +kernel
theorem d_A_operands_78 : decode c_A_operands 78 = .ok (.ior, 1) := by decide +kernel
theorem d_A_operands_79 : decode c_A_operands 79 = .ok (.ireturn, 1) := by decide +kernel
theorem d_A_operands_80 : decode c_A_operands 80 = .ok (.aload_n 0, 1) := by decide +kernel
theorem d_A_operands_81 : decode c_A_operands 81 = .ok (.aload_n 0, 1) := by decide +kernel
theorem d_A_operands_82 : decode c_A_operands 82 = .ok (.invokevirtual 106, 3) := by decide +kernel
theorem d_A_operands_85 : decode c_A_operands 85 = .ok (.invokevirtual 112, 3) := by decide +kernel
theorem d_A_operands_88 : decode c_A_operands 88 = .ok (.aload_n 0, 1) := by decide +kernel
theorem d_A_operands_89 : decode c_A_operands 89 = .ok (.invokevirtual 109, 3) := by decide +kernel
theorem d_A_operands_92 : decode c_A_operands 92 = .ok (.ior, 1) := by decide +kernel
theorem d_A_operands_93 : decode c_A_operands 93 = .ok (.ireturn, 1) := by decide +kernel
theorem d_A_operands_94 : decode c_A_operands 94 = .ok (.aload_n 0, 1) := by decide +kernel
theorem d_A_operands_95 : decode c_A_operands 95 = .ok (.aload_n 0, 1) := by decide +kernel
theorem d_A_operands_96 : decode c_A_operands 96 = .ok (.iconst 0, 1) := by decide +kernel
theorem d_A_operands_97 : decode c_A_operands 97 = .ok (.ldc 115, 2) := by decide +kernel
theorem d_A_operands_99 : decode c_A_operands 99 = .ok (.invokevirtual 116, 3) := by decide +kernel
theorem d_A_operands_102 : decode c_A_operands 102 = .ok (.invokevirtual 112, 3) := by decide +kernel
theorem d_A_operands_105 : decode c_A_operands 105 = .ok (.aload_n 0, 1) := by decide +kernel
theorem d_A_operands_106 : decode c_A_operands 106 = .ok (.invokevirtual 106, 3) := by decide +kernel
theorem d_A_operands_109 : decode c_A_operands 109 = .ok (.ior, 1) := by decide +kernel
theorem d_A_operands_110 : decode c_A_operands 110 = .ok (.ireturn, 1) := by decide +kernel
theorem d_A_operands_111 : decode c_A_operands 111 = .ok (.aload_n 0, 1) := by decide +kernel
theorem d_A_operands_112 : decode c_A_operands 112 = .ok (.ldc 120, 2) := by decide +kernel
theorem d_A_operands_114 : decode c_A_operands 114 = .ok (.ldc 121, 2) := by decide +kernel
theorem d_A_operands_116 : decode c_A_operands 116 = .ok (.invokevirtual 116, 3) := by decide +kernel
theorem d_A_operands_119 : decode c_A_operands 119 = .ok (.ireturn, 1) := by decide +kernel
theorem d_A_operands_120 : decode c_A_operands 120 = .ok (.aload_n 0, 1) := by decide +kernel
theorem d_A_operands_121 : decode c_A_operands 121 = .ok (.invokevirtual 122, 3) := by decide +kernel
theorem d_A_operands_124 : decode c_A_operands 124 = .ok (.ireturn, 1) := by decide +kernel
theorem kd_A_operands : (y_A_operands).cls = "WindowMachine$Assembler" ∧ (y_A_operands).cls ≠ "java/lang/invoke/MethodHandle" ∧ (y_A_operands).cls ≠ "java/lang/invoke/VarHandle" ∧ (parseMethodDescriptor (y_A_operands).desc).map (fun d => d.parameters.length) = some 0 := by decide +kernel
def f_operands (st : SA) : Int32 × SA := (if (st.1 3) = (0 : Int32) then ((0 : Int32), st) else (let u_2 := f_expect st (32 : Int32); (if (u_2.1 3) = (1 : Int32) then (let r_5 := (f_target u_2).1; (let u_5 := (f_target u_2).2; (r_5, u_5))) else (if (u_2.1 3) = (2 : Int32) then (let r_7 := (f_sources u_2).1; (let u_7 := (f_sources u_2).2; (r_7, u_7))) else (if (u_2.1 3) = (3 : Int32) then (let r_9 := (f_sources u_2).1; (let u_9 := (f_sources u_2).2; (let r_10 := (f_behind u_9 r_9).1; (let u_10 := (f_behind u_9 r_9).2; (let r_11 := (f_target u_10).1; (let u_11 := (f_target u_10).2; (r_10 ||| r_11, u_11))))))) else (if (u_2.1 3) = (4 : Int32) then (let r_13 := (f_target u_2).1; (let u_13 := (f_target u_2).2; (let r_14 := (f_behind u_13 r_13).1; (let u_14 := (f_behind u_13 r_13).2; (let r_15 := (f_sources u_14).1; (let u_15 := (f_sources u_14).2; (r_14 ||| r_15, u_15))))))) else (if (u_2.1 3) = (5 : Int32) then (let r_17 := (f_number u_2 (0 : Int32) (4194303 : Int32)).1; (let u_17 := (f_number u_2 (0 : Int32) (4194303 : Int32)).2; (let r_18 := (f_behind u_17 r_17).1; (let u_18 := (f_behind u_17 r_17).2; (let r_19 := (f_target u_18).1; (let u_19 := (f_target u_18).2; (r_18 ||| r_19, u_19))))))) else (if (u_2.1 3) = (6 : Int32) then (let r_21 := (f_number u_2 (-536870912 : Int32) (536870911 : Int32)).1; (let u_21 := (f_number u_2 (-536870912 : Int32) (536870911 : Int32)).2; (r_21, u_21))) else (let r_22 := (f_distanceAndAnnul u_2).1; (let u_22 := (f_distanceAndAnnul u_2).2; (r_22, u_22)))))))))))
set_option maxHeartbeats 4000000 in
set_option maxRecDepth 100000 in
theorem mt_A_operands (l : Launch) (D : va_G) (a b : Nat) (k : ClassId) (sz : Nat) (st : SA) (hA9 : okA st) : Met l y_A_operands w_A_operands ({ frames := 4, cells := 0, slots := 0, locals := 91 }) (va_Pc [.ref a] (zw_pre D vwCl [(k, .char)] sz (wA a b k st) (fun _ => True))) (va_Qi (fun r (u : SA) => r = (f_operands st).1 ∧ u = (f_operands st).2) (fun u t => zw_at D vwCl (va_A (wA a b k st) sz) ((fun (u : SA) => wA a b k u) u) t) (va_A (wA a b k st) sz)) 0 0 (va_A (wA a b k st) sz) := by
  refine zm (Qf := fun A => va_Qi (fun r (u : SA) => r = (f_operands st).1 ∧ u = (f_operands st).2) (fun u t => zw_at D vwCl A ((fun (u : SA) => wA a b k u) u) t) A) (Zf := fun _ _ => True) (cc := c_A_operands) (nL := 1) (ret := (some .int)) (by decide) rfl (Nat.le_of_ble_eq_true rfl) ?_
  intro p e s m below meth c9 A H locs ls hx hb hml hown hts hr hlocks hA hK hP hD hS hZ hl
  have hl : lv_has ls 1 [(0, .ref a)] := hl
  have ht : ∀ w9 ∈ zT, w9.before _ s = true := fun w9 h9 => hts w9 (List.mem_cons_of_mem _ h9)
  refine lv_aload_n hx hb d_A_operands_0 rfl (lv_at hl 0 rfl) ?_
  refine va_get (D := D) (ci := 0) (v := .int (st.1 3)) (C := "WindowMachine$Assembler") (T := T_A) (N := 5) hx hb ht zi_A hown hK hP 0 rfl rfl 4 (by decide) (ht _ zw_50) (fun _ h9 => h9) rfl d_A_operands_1 ?_
  refine lv_if_ne (tgt := 9) hx hb d_A_operands_4 (by decide) (fun c_1 => ?_) (fun c_1 => ?_)
  · refine lv_aload_n hx hb d_A_operands_9 rfl (lv_at hl 0 rfl) ?_
    refine lv_bipush (v := (32 : Int32)) hx hb d_A_operands_10 (by decide) ?_
    refine zc_v (w2 := fun u9 => wA a b k u9) (va_runV (As := [.int (32 : Int32)]) (rest := []) ⟨hx, hb, hml, hown, ht⟩ (mt_A_expect l D a b k H.size st (32 : Int32) hA9) (cwV 1 ht (zgV zw_404 zw_406 zs_10 zw_3 zw_407) rfl rfl rfl kd_A_expect ⟨Nat.le_of_ble_eq_true rfl, Nat.le_of_ble_eq_true rfl⟩) ⟨zw_blind zw_tt, va_recv (hK.sub (tys' := [(k, .char)]) [0] rfl) (hP.sub (ws' := wA a b k st) [0, 1] rfl) (ci := 0) (q0 := 0) rfl rfl, zw_go (hP.sub (ws' := wA a b k st) [0, 1] rfl) (hD.sub (ws' := wA a b k st) [0, 1] (by decide) rfl) (hK.sub (tys' := [(k, .char)]) [0] rfl) (fun _ _ _ => trivial)⟩ rfl rfl hl.1 rfl (lv_room (Nat.le_of_ble_eq_true rfl)) d_A_operands_12 ⟨Nat.le_of_ble_eq_true rfl, Nat.le_of_ble_eq_true rfl⟩) hP hD hS hA [0, 1] [] [0, 1] rfl rfl (by decide) (by decide) (by decide) (fun _ => rfl) (fun u_2 H locs hw hP hD hS => ?_)
    have eu_2 := hw
    have ok_2 : okA u_2 := by rw [eu_2]; exact (ok_expect hA9)
    refine lv_aload_n hx hb d_A_operands_15 rfl (lv_at hl 0 rfl) ?_
    refine va_get (D := D) (ci := 0) (v := .int (u_2.1 3)) (C := "WindowMachine$Assembler") (T := T_A) (N := 5) hx hb ht zi_A hown hK hP 0 rfl rfl 4 (by decide) (ht _ zw_50) (fun _ h9 => h9) rfl d_A_operands_16 ?_
    by_cases c_4 : (u_2.1 3) = (1 : Int32)
    · refine lv_tableIn (tgt := 56) hx hb d_A_operands_19 (by rw [c_4]; decide) (by rw [c_4]; decide) (by rw [c_4]; rfl) (by decide) ?_
      refine lv_aload_n hx hb d_A_operands_56 rfl (lv_at hl 0 rfl) ?_
      refine zc_i (w2 := fun u9 => wA a b k u9) (va_runV (As := []) (rest := []) ⟨hx, hb, hml, hown, ht⟩ (mt_A_target l D a b k H.size u_2 ok_2) (cwV 0 ht (zgV zw_412 zw_414 zs_12 zw_3 zw_415) rfl rfl rfl kd_A_target ⟨Nat.le_of_ble_eq_true rfl, Nat.le_of_ble_eq_true rfl⟩) ⟨zw_blind zw_tt, va_recv (hK.sub (tys' := [(k, .char)]) [0] rfl) (hP.sub (ws' := wA a b k u_2) [0, 1] rfl) (ci := 0) (q0 := 0) rfl rfl, zw_go (hP.sub (ws' := wA a b k u_2) [0, 1] rfl) (hD.sub (ws' := wA a b k u_2) [0, 1] (by decide) rfl) (hK.sub (tys' := [(k, .char)]) [0] rfl) (fun _ _ _ => trivial)⟩ rfl rfl hl.1 rfl (lv_room (Nat.le_of_ble_eq_true rfl)) d_A_operands_57 ⟨Nat.le_of_ble_eq_true rfl, Nat.le_of_ble_eq_true rfl⟩) hP hD hS hA [0, 1] [] [0, 1] rfl rfl (by decide) (by decide) (by decide) (fun _ => rfl) (fun r_5 u_5 H locs hw hP hD hS => ?_)
      obtain ⟨er_5, eu_5⟩ := hw
      have ok_5 : okA u_5 := by rw [eu_5]; exact (ok_target ok_2)
      exact zl_i (u := u_5) hx hb hr hlocks hS hP hD (⟨by simp only [f_operands, ← eu_2, ← er_5, ← eu_5, if_neg c_1, if_pos c_4], by simp only [f_operands, ← eu_2, ← er_5, ← eu_5, if_neg c_1, if_pos c_4]⟩) d_A_operands_60
    by_cases c_6 : (u_2.1 3) = (2 : Int32)
    · refine lv_tableIn (tgt := 61) hx hb d_A_operands_19 (by rw [c_6]; decide) (by rw [c_6]; decide) (by rw [c_6]; rfl) (by decide) ?_
      refine lv_aload_n hx hb d_A_operands_61 rfl (lv_at hl 0 rfl) ?_
      refine zc_i (w2 := fun u9 => wA a b k u9) (va_runV (As := []) (rest := []) ⟨hx, hb, hml, hown, ht⟩ (mt_A_sources l D a b k H.size u_2 ok_2) (cwV 0 ht (zgV zw_428 zw_430 zs_16 zw_3 zw_431) rfl rfl rfl kd_A_sources ⟨Nat.le_of_ble_eq_true rfl, Nat.le_of_ble_eq_true rfl⟩) ⟨zw_blind zw_tt, va_recv (hK.sub (tys' := [(k, .char)]) [0] rfl) (hP.sub (ws' := wA a b k u_2) [0, 1] rfl) (ci := 0) (q0 := 0) rfl rfl, zw_go (hP.sub (ws' := wA a b k u_2) [0, 1] rfl) (hD.sub (ws' := wA a b k u_2) [0, 1] (by decide) rfl) (hK.sub (tys' := [(k, .char)]) [0] rfl) (fun _ _ _ => trivial)⟩ rfl rfl hl.1 rfl (lv_room (Nat.le_of_ble_eq_true rfl)) d_A_operands_62 ⟨Nat.le_of_ble_eq_true rfl, Nat.le_of_ble_eq_true rfl⟩) hP hD hS hA [0, 1] [] [0, 1] rfl rfl (by decide) (by decide) (by decide) (fun _ => rfl) (fun r_7 u_7 H locs hw hP hD hS => ?_)
      obtain ⟨er_7, eu_7⟩ := hw
      have ok_7 : okA u_7 := by rw [eu_7]; exact (ok_sources ok_2)
      exact zl_i (u := u_7) hx hb hr hlocks hS hP hD (⟨by simp only [f_operands, ← eu_2, ← er_7, ← eu_7, if_neg c_1, if_neg c_4, if_pos c_6], by simp only [f_operands, ← eu_2, ← er_7, ← eu_7, if_neg c_1, if_neg c_4, if_pos c_6]⟩) d_A_operands_65
    by_cases c_8 : (u_2.1 3) = (3 : Int32)
    · refine lv_tableIn (tgt := 66) hx hb d_A_operands_19 (by rw [c_8]; decide) (by rw [c_8]; decide) (by rw [c_8]; rfl) (by decide) ?_
      refine lv_aload_n hx hb d_A_operands_66 rfl (lv_at hl 0 rfl) ?_
      refine lv_aload_n hx hb d_A_operands_67 rfl (lv_at hl 0 rfl) ?_
      refine zc_i (w2 := fun u9 => wA a b k u9) (va_runV (As := []) (rest := [.ref a]) ⟨hx, hb, hml, hown, ht⟩ (mt_A_sources l D a b k H.size u_2 ok_2) (cwV 0 ht (zgV zw_428 zw_430 zs_16 zw_3 zw_431) rfl rfl rfl kd_A_sources ⟨Nat.le_of_ble_eq_true rfl, Nat.le_of_ble_eq_true rfl⟩) ⟨zw_blind zw_tt, va_recv (hK.sub (tys' := [(k, .char)]) [0] rfl) (hP.sub (ws' := wA a b k u_2) [0, 1] rfl) (ci := 0) (q0 := 0) rfl rfl, zw_go (hP.sub (ws' := wA a b k u_2) [0, 1] rfl) (hD.sub (ws' := wA a b k u_2) [0, 1] (by decide) rfl) (hK.sub (tys' := [(k, .char)]) [0] rfl) (fun _ _ _ => trivial)⟩ rfl rfl hl.1 rfl (lv_room (Nat.le_of_ble_eq_true rfl)) d_A_operands_68 ⟨Nat.le_of_ble_eq_true rfl, Nat.le_of_ble_eq_true rfl⟩) hP hD hS hA [0, 1] [] [0, 1] rfl rfl (by decide) (by decide) (by decide) (fun _ => rfl) (fun r_9 u_9 H locs hw hP hD hS => ?_)
      obtain ⟨er_9, eu_9⟩ := hw
      have ok_9 : okA u_9 := by rw [eu_9]; exact (ok_sources ok_2)
      refine zc_i (w2 := fun u9 => wA a b k u9) (va_runV (As := [.int r_9]) (rest := []) ⟨hx, hb, hml, hown, ht⟩ (mt_A_behind l D a b k H.size u_9 r_9 ok_9) (cwV 1 ht (zgV zw_432 zw_434 zs_17 zw_3 zw_435) rfl rfl rfl kd_A_behind ⟨Nat.le_of_ble_eq_true rfl, Nat.le_of_ble_eq_true rfl⟩) ⟨zw_blind zw_tt, va_recv (hK.sub (tys' := [(k, .char)]) [0] rfl) (hP.sub (ws' := wA a b k u_9) [0, 1] rfl) (ci := 0) (q0 := 0) rfl rfl, zw_go (hP.sub (ws' := wA a b k u_9) [0, 1] rfl) (hD.sub (ws' := wA a b k u_9) [0, 1] (by decide) rfl) (hK.sub (tys' := [(k, .char)]) [0] rfl) (fun _ _ _ => trivial)⟩ rfl rfl hl.1 rfl (lv_room (Nat.le_of_ble_eq_true rfl)) d_A_operands_71 ⟨Nat.le_of_ble_eq_true rfl, Nat.le_of_ble_eq_true rfl⟩) hP hD hS hA [0, 1] [] [0, 1] rfl rfl (by decide) (by decide) (by decide) (fun _ => rfl) (fun r_10 u_10 H locs hw hP hD hS => ?_)
      obtain ⟨er_10, eu_10⟩ := hw
      have ok_10 : okA u_10 := by rw [eu_10]; exact (ok_behind ok_9)
      refine lv_aload_n hx hb d_A_operands_74 rfl (lv_at hl 0 rfl) ?_
      refine zc_i (w2 := fun u9 => wA a b k u9) (va_runV (As := []) (rest := [.int r_10]) ⟨hx, hb, hml, hown, ht⟩ (mt_A_target l D a b k H.size u_10 ok_10) (cwV 0 ht (zgV zw_412 zw_414 zs_12 zw_3 zw_415) rfl rfl rfl kd_A_target ⟨Nat.le_of_ble_eq_true rfl, Nat.le_of_ble_eq_true rfl⟩) ⟨zw_blind zw_tt, va_recv (hK.sub (tys' := [(k, .char)]) [0] rfl) (hP.sub (ws' := wA a b k u_10) [0, 1] rfl) (ci := 0) (q0 := 0) rfl rfl, zw_go (hP.sub (ws' := wA a b k u_10) [0, 1] rfl) (hD.sub (ws' := wA a b k u_10) [0, 1] (by decide) rfl) (hK.sub (tys' := [(k, .char)]) [0] rfl) (fun _ _ _ => trivial)⟩ rfl rfl hl.1 rfl (lv_room (Nat.le_of_ble_eq_true rfl)) d_A_operands_75 ⟨Nat.le_of_ble_eq_true rfl, Nat.le_of_ble_eq_true rfl⟩) hP hD hS hA [0, 1] [] [0, 1] rfl rfl (by decide) (by decide) (by decide) (fun _ => rfl) (fun r_11 u_11 H locs hw hP hD hS => ?_)
      obtain ⟨er_11, eu_11⟩ := hw
      have ok_11 : okA u_11 := by rw [eu_11]; exact (ok_target ok_10)
      refine lv_ior hx hb d_A_operands_78 ?_
      exact zl_i (u := u_11) hx hb hr hlocks hS hP hD (⟨by simp only [f_operands, ← eu_2, ← er_9, ← eu_9, ← er_10, ← eu_10, ← er_11, ← eu_11, if_neg c_1, if_neg c_4, if_neg c_6, if_pos c_8], by simp only [f_operands, ← eu_2, ← er_9, ← eu_9, ← er_10, ← eu_10, ← er_11, ← eu_11, if_neg c_1, if_neg c_4, if_neg c_6, if_pos c_8]⟩) d_A_operands_79
    by_cases c_12 : (u_2.1 3) = (4 : Int32)
    · refine lv_tableIn (tgt := 80) hx hb d_A_operands_19 (by rw [c_12]; decide) (by rw [c_12]; decide) (by rw [c_12]; rfl) (by decide) ?_
      refine lv_aload_n hx hb d_A_operands_80 rfl (lv_at hl 0 rfl) ?_
      refine lv_aload_n hx hb d_A_operands_81 rfl (lv_at hl 0 rfl) ?_
      refine zc_i (w2 := fun u9 => wA a b k u9) (va_runV (As := []) (rest := [.ref a]) ⟨hx, hb, hml, hown, ht⟩ (mt_A_target l D a b k H.size u_2 ok_2) (cwV 0 ht (zgV zw_412 zw_414 zs_12 zw_3 zw_415) rfl rfl rfl kd_A_target ⟨Nat.le_of_ble_eq_true rfl, Nat.le_of_ble_eq_true rfl⟩) ⟨zw_blind zw_tt, va_recv (hK.sub (tys' := [(k, .char)]) [0] rfl) (hP.sub (ws' := wA a b k u_2) [0, 1] rfl) (ci := 0) (q0 := 0) rfl rfl, zw_go (hP.sub (ws' := wA a b k u_2) [0, 1] rfl) (hD.sub (ws' := wA a b k u_2) [0, 1] (by decide) rfl) (hK.sub (tys' := [(k, .char)]) [0] rfl) (fun _ _ _ => trivial)⟩ rfl rfl hl.1 rfl (lv_room (Nat.le_of_ble_eq_true rfl)) d_A_operands_82 ⟨Nat.le_of_ble_eq_true rfl, Nat.le_of_ble_eq_true rfl⟩) hP hD hS hA [0, 1] [] [0, 1] rfl rfl (by decide) (by decide) (by decide) (fun _ => rfl) (fun r_13 u_13 H locs hw hP hD hS => ?_)
      obtain ⟨er_13, eu_13⟩ := hw
      have ok_13 : okA u_13 := by rw [eu_13]; exact (ok_target ok_2)
      refine zc_i (w2 := fun u9 => wA a b k u9) (va_runV (As := [.int r_13]) (rest := []) ⟨hx, hb, hml, hown, ht⟩ (mt_A_behind l D a b k H.size u_13 r_13 ok_13) (cwV 1 ht (zgV zw_432 zw_434 zs_17 zw_3 zw_435) rfl rfl rfl kd_A_behind ⟨Nat.le_of_ble_eq_true rfl, Nat.le_of_ble_eq_true rfl⟩) ⟨zw_blind zw_tt, va_recv (hK.sub (tys' := [(k, .char)]) [0] rfl) (hP.sub (ws' := wA a b k u_13) [0, 1] rfl) (ci := 0) (q0 := 0) rfl rfl, zw_go (hP.sub (ws' := wA a b k u_13) [0, 1] rfl) (hD.sub (ws' := wA a b k u_13) [0, 1] (by decide) rfl) (hK.sub (tys' := [(k, .char)]) [0] rfl) (fun _ _ _ => trivial)⟩ rfl rfl hl.1 rfl (lv_room (Nat.le_of_ble_eq_true rfl)) d_A_operands_85 ⟨Nat.le_of_ble_eq_true rfl, Nat.le_of_ble_eq_true rfl⟩) hP hD hS hA [0, 1] [] [0, 1] rfl rfl (by decide) (by decide) (by decide) (fun _ => rfl) (fun r_14 u_14 H locs hw hP hD hS => ?_)
      obtain ⟨er_14, eu_14⟩ := hw
      have ok_14 : okA u_14 := by rw [eu_14]; exact (ok_behind ok_13)
      refine lv_aload_n hx hb d_A_operands_88 rfl (lv_at hl 0 rfl) ?_
      refine zc_i (w2 := fun u9 => wA a b k u9) (va_runV (As := []) (rest := [.int r_14]) ⟨hx, hb, hml, hown, ht⟩ (mt_A_sources l D a b k H.size u_14 ok_14) (cwV 0 ht (zgV zw_428 zw_430 zs_16 zw_3 zw_431) rfl rfl rfl kd_A_sources ⟨Nat.le_of_ble_eq_true rfl, Nat.le_of_ble_eq_true rfl⟩) ⟨zw_blind zw_tt, va_recv (hK.sub (tys' := [(k, .char)]) [0] rfl) (hP.sub (ws' := wA a b k u_14) [0, 1] rfl) (ci := 0) (q0 := 0) rfl rfl, zw_go (hP.sub (ws' := wA a b k u_14) [0, 1] rfl) (hD.sub (ws' := wA a b k u_14) [0, 1] (by decide) rfl) (hK.sub (tys' := [(k, .char)]) [0] rfl) (fun _ _ _ => trivial)⟩ rfl rfl hl.1 rfl (lv_room (Nat.le_of_ble_eq_true rfl)) d_A_operands_89 ⟨Nat.le_of_ble_eq_true rfl, Nat.le_of_ble_eq_true rfl⟩) hP hD hS hA [0, 1] [] [0, 1] rfl rfl (by decide) (by decide) (by decide) (fun _ => rfl) (fun r_15 u_15 H locs hw hP hD hS => ?_)
      obtain ⟨er_15, eu_15⟩ := hw
      have ok_15 : okA u_15 := by rw [eu_15]; exact (ok_sources ok_14)
      refine lv_ior hx hb d_A_operands_92 ?_
      exact zl_i (u := u_15) hx hb hr hlocks hS hP hD (⟨by simp only [f_operands, ← eu_2, ← er_13, ← eu_13, ← er_14, ← eu_14, ← er_15, ← eu_15, if_neg c_1, if_neg c_4, if_neg c_6, if_neg c_8, if_pos c_12], by simp only [f_operands, ← eu_2, ← er_13, ← eu_13, ← er_14, ← eu_14, ← er_15, ← eu_15, if_neg c_1, if_neg c_4, if_neg c_6, if_neg c_8, if_pos c_12]⟩) d_A_operands_93
    by_cases c_16 : (u_2.1 3) = (5 : Int32)
    · refine lv_tableIn (tgt := 94) hx hb d_A_operands_19 (by rw [c_16]; decide) (by rw [c_16]; decide) (by rw [c_16]; rfl) (by decide) ?_
      refine lv_aload_n hx hb d_A_operands_94 rfl (lv_at hl 0 rfl) ?_
      refine lv_aload_n hx hb d_A_operands_95 rfl (lv_at hl 0 rfl) ?_
      refine lv_iconst (v := (0 : Int32)) hx hb d_A_operands_96 (by decide) ?_
      refine lv_ldc (v := (4194303 : Int32)) hx hb hown (ht _ zw_440) d_A_operands_97 ?_
      refine zc_i (w2 := fun u9 => wA a b k u9) (va_runV (As := [.int (0 : Int32), .int (4194303 : Int32)]) (rest := [.ref a]) ⟨hx, hb, hml, hown, ht⟩ (mt_A_number l D a b k H.size u_2 (0 : Int32) (4194303 : Int32) ok_2) (cwV 2 ht (zgV zw_436 zw_438 zs_18 zw_3 zw_439) rfl rfl rfl kd_A_number ⟨Nat.le_of_ble_eq_true rfl, Nat.le_of_ble_eq_true rfl⟩) ⟨zw_blind zw_tt, va_recv (hK.sub (tys' := [(k, .char)]) [0] rfl) (hP.sub (ws' := wA a b k u_2) [0, 1] rfl) (ci := 0) (q0 := 0) rfl rfl, zw_go (hP.sub (ws' := wA a b k u_2) [0, 1] rfl) (hD.sub (ws' := wA a b k u_2) [0, 1] (by decide) rfl) (hK.sub (tys' := [(k, .char)]) [0] rfl) (fun _ _ _ => trivial)⟩ rfl rfl hl.1 rfl (lv_room (Nat.le_of_ble_eq_true rfl)) d_A_operands_99 ⟨Nat.le_of_ble_eq_true rfl, Nat.le_of_ble_eq_true rfl⟩) hP hD hS hA [0, 1] [] [0, 1] rfl rfl (by decide) (by decide) (by decide) (fun _ => rfl) (fun r_17 u_17 H locs hw hP hD hS => ?_)
      obtain ⟨er_17, eu_17⟩ := hw
      have ok_17 : okA u_17 := by rw [eu_17]; exact (ok_number ok_2)
      refine zc_i (w2 := fun u9 => wA a b k u9) (va_runV (As := [.int r_17]) (rest := []) ⟨hx, hb, hml, hown, ht⟩ (mt_A_behind l D a b k H.size u_17 r_17 ok_17) (cwV 1 ht (zgV zw_432 zw_434 zs_17 zw_3 zw_435) rfl rfl rfl kd_A_behind ⟨Nat.le_of_ble_eq_true rfl, Nat.le_of_ble_eq_true rfl⟩) ⟨zw_blind zw_tt, va_recv (hK.sub (tys' := [(k, .char)]) [0] rfl) (hP.sub (ws' := wA a b k u_17) [0, 1] rfl) (ci := 0) (q0 := 0) rfl rfl, zw_go (hP.sub (ws' := wA a b k u_17) [0, 1] rfl) (hD.sub (ws' := wA a b k u_17) [0, 1] (by decide) rfl) (hK.sub (tys' := [(k, .char)]) [0] rfl) (fun _ _ _ => trivial)⟩ rfl rfl hl.1 rfl (lv_room (Nat.le_of_ble_eq_true rfl)) d_A_operands_102 ⟨Nat.le_of_ble_eq_true rfl, Nat.le_of_ble_eq_true rfl⟩) hP hD hS hA [0, 1] [] [0, 1] rfl rfl (by decide) (by decide) (by decide) (fun _ => rfl) (fun r_18 u_18 H locs hw hP hD hS => ?_)
      obtain ⟨er_18, eu_18⟩ := hw
      have ok_18 : okA u_18 := by rw [eu_18]; exact (ok_behind ok_17)
      refine lv_aload_n hx hb d_A_operands_105 rfl (lv_at hl 0 rfl) ?_
      refine zc_i (w2 := fun u9 => wA a b k u9) (va_runV (As := []) (rest := [.int r_18]) ⟨hx, hb, hml, hown, ht⟩ (mt_A_target l D a b k H.size u_18 ok_18) (cwV 0 ht (zgV zw_412 zw_414 zs_12 zw_3 zw_415) rfl rfl rfl kd_A_target ⟨Nat.le_of_ble_eq_true rfl, Nat.le_of_ble_eq_true rfl⟩) ⟨zw_blind zw_tt, va_recv (hK.sub (tys' := [(k, .char)]) [0] rfl) (hP.sub (ws' := wA a b k u_18) [0, 1] rfl) (ci := 0) (q0 := 0) rfl rfl, zw_go (hP.sub (ws' := wA a b k u_18) [0, 1] rfl) (hD.sub (ws' := wA a b k u_18) [0, 1] (by decide) rfl) (hK.sub (tys' := [(k, .char)]) [0] rfl) (fun _ _ _ => trivial)⟩ rfl rfl hl.1 rfl (lv_room (Nat.le_of_ble_eq_true rfl)) d_A_operands_106 ⟨Nat.le_of_ble_eq_true rfl, Nat.le_of_ble_eq_true rfl⟩) hP hD hS hA [0, 1] [] [0, 1] rfl rfl (by decide) (by decide) (by decide) (fun _ => rfl) (fun r_19 u_19 H locs hw hP hD hS => ?_)
      obtain ⟨er_19, eu_19⟩ := hw
      have ok_19 : okA u_19 := by rw [eu_19]; exact (ok_target ok_18)
      refine lv_ior hx hb d_A_operands_109 ?_
      exact zl_i (u := u_19) hx hb hr hlocks hS hP hD (⟨by simp only [f_operands, ← eu_2, ← er_17, ← eu_17, ← er_18, ← eu_18, ← er_19, ← eu_19, if_neg c_1, if_neg c_4, if_neg c_6, if_neg c_8, if_neg c_12, if_pos c_16], by simp only [f_operands, ← eu_2, ← er_17, ← eu_17, ← er_18, ← eu_18, ← er_19, ← eu_19, if_neg c_1, if_neg c_4, if_neg c_6, if_neg c_8, if_neg c_12, if_pos c_16]⟩) d_A_operands_110
    by_cases c_20 : (u_2.1 3) = (6 : Int32)
    · refine lv_tableIn (tgt := 111) hx hb d_A_operands_19 (by rw [c_20]; decide) (by rw [c_20]; decide) (by rw [c_20]; rfl) (by decide) ?_
      refine lv_aload_n hx hb d_A_operands_111 rfl (lv_at hl 0 rfl) ?_
      refine lv_ldc (v := (-536870912 : Int32)) hx hb hown (ht _ zw_441) d_A_operands_112 ?_
      refine lv_ldc (v := (536870911 : Int32)) hx hb hown (ht _ zw_442) d_A_operands_114 ?_
      refine zc_i (w2 := fun u9 => wA a b k u9) (va_runV (As := [.int (-536870912 : Int32), .int (536870911 : Int32)]) (rest := []) ⟨hx, hb, hml, hown, ht⟩ (mt_A_number l D a b k H.size u_2 (-536870912 : Int32) (536870911 : Int32) ok_2) (cwV 2 ht (zgV zw_436 zw_438 zs_18 zw_3 zw_439) rfl rfl rfl kd_A_number ⟨Nat.le_of_ble_eq_true rfl, Nat.le_of_ble_eq_true rfl⟩) ⟨zw_blind zw_tt, va_recv (hK.sub (tys' := [(k, .char)]) [0] rfl) (hP.sub (ws' := wA a b k u_2) [0, 1] rfl) (ci := 0) (q0 := 0) rfl rfl, zw_go (hP.sub (ws' := wA a b k u_2) [0, 1] rfl) (hD.sub (ws' := wA a b k u_2) [0, 1] (by decide) rfl) (hK.sub (tys' := [(k, .char)]) [0] rfl) (fun _ _ _ => trivial)⟩ rfl rfl hl.1 rfl (lv_room (Nat.le_of_ble_eq_true rfl)) d_A_operands_116 ⟨Nat.le_of_ble_eq_true rfl, Nat.le_of_ble_eq_true rfl⟩) hP hD hS hA [0, 1] [] [0, 1] rfl rfl (by decide) (by decide) (by decide) (fun _ => rfl) (fun r_21 u_21 H locs hw hP hD hS => ?_)
      obtain ⟨er_21, eu_21⟩ := hw
      have ok_21 : okA u_21 := by rw [eu_21]; exact (ok_number ok_2)
      exact zl_i (u := u_21) hx hb hr hlocks hS hP hD (⟨by simp only [f_operands, ← eu_2, ← er_21, ← eu_21, if_neg c_1, if_neg c_4, if_neg c_6, if_neg c_8, if_neg c_12, if_neg c_16, if_pos c_20], by simp only [f_operands, ← eu_2, ← er_21, ← eu_21, if_neg c_1, if_neg c_4, if_neg c_6, if_neg c_8, if_neg c_12, if_neg c_16, if_pos c_20]⟩) d_A_operands_119
    refine lv_tableOut (tgt := 120) hx hb d_A_operands_19 (by have := lv_neT c_4 (a := 1) (by decide); have := lv_neT c_6 (a := 2) (by decide); have := lv_neT c_8 (a := 3) (by decide); have := lv_neT c_12 (a := 4) (by decide); have := lv_neT c_16 (a := 5) (by decide); have := lv_neT c_20 (a := 6) (by decide); omega) (by decide) ?_
    refine lv_aload_n hx hb d_A_operands_120 rfl (lv_at hl 0 rfl) ?_
    refine zc_i (w2 := fun u9 => wA a b k u9) (va_runV (As := []) (rest := []) ⟨hx, hb, hml, hown, ht⟩ (mt_A_distanceAndAnnul l D a b k H.size u_2 ok_2) (cwV 0 ht (zgV zw_443 zw_445 zs_19 zw_3 zw_446) rfl rfl rfl kd_A_distanceAndAnnul ⟨Nat.le_of_ble_eq_true rfl, Nat.le_of_ble_eq_true rfl⟩) ⟨zw_blind zw_tt, va_recv (hK.sub (tys' := [(k, .char)]) [0] rfl) (hP.sub (ws' := wA a b k u_2) [0, 1] rfl) (ci := 0) (q0 := 0) rfl rfl, zw_go (hP.sub (ws' := wA a b k u_2) [0, 1] rfl) (hD.sub (ws' := wA a b k u_2) [0, 1] (by decide) rfl) (hK.sub (tys' := [(k, .char)]) [0] rfl) (fun _ _ _ => trivial)⟩ rfl rfl hl.1 rfl (lv_room (Nat.le_of_ble_eq_true rfl)) d_A_operands_121 ⟨Nat.le_of_ble_eq_true rfl, Nat.le_of_ble_eq_true rfl⟩) hP hD hS hA [0, 1] [] [0, 1] rfl rfl (by decide) (by decide) (by decide) (fun _ => rfl) (fun r_22 u_22 H locs hw hP hD hS => ?_)
    obtain ⟨er_22, eu_22⟩ := hw
    have ok_22 : okA u_22 := by rw [eu_22]; exact (ok_distanceAndAnnul ok_2)
    exact zl_i (u := u_22) hx hb hr hlocks hS hP hD (⟨by simp only [f_operands, ← eu_2, ← er_22, ← eu_22, if_neg c_1, if_neg c_4, if_neg c_6, if_neg c_8, if_neg c_12, if_neg c_16, if_neg c_20], by simp only [f_operands, ← eu_2, ← er_22, ← eu_22, if_neg c_1, if_neg c_4, if_neg c_6, if_neg c_8, if_neg c_12, if_neg c_16, if_neg c_20]⟩) d_A_operands_124
  refine lv_iconst (v := (0 : Int32)) hx hb d_A_operands_7 (by decide) ?_
  exact zl_i (u := st) hx hb hr hlocks hS hP hD (⟨by simp only [f_operands, if_pos c_1], by simp only [f_operands, if_pos c_1]⟩) d_A_operands_8
theorem ok_operands {st : SA} (h : okA st) : okA (f_operands st).2 := by
  have h1 := ok_expect (p := 32) h
  unfold f_operands
  dsimp only
  repeat' first | with_reducible exact h | with_reducible exact ok_target h1 | with_reducible exact ok_sources h1 | with_reducible exact ok_target (ok_behind (ok_sources h1)) | with_reducible exact ok_sources (ok_behind (ok_target h1)) | with_reducible exact ok_target (ok_behind (ok_number h1)) | with_reducible exact ok_number h1 | with_reducible exact ok_distanceAndAnnul h1 | with_reducible refine okA_ite2 ?_ ?_
theorem d_A_formOf_0 : decode c_A_formOf 0 = .ok (.iload_n 0, 1) := by decide +kernel
theorem d_A_formOf_1 : decode c_A_formOf 1 = .ok (.bipush 40, 2) := by decide +kernel
theorem d_A_formOf_3 : decode c_A_formOf 3 = .ok (.if_icmp .lt 11, 3) := by decide +kernel
theorem d_A_formOf_6 : decode c_A_formOf 6 = .ok (.iload_n 0, 1) := by decide +kernel
theorem d_A_formOf_7 : decode c_A_formOf 7 = .ok (.bipush 43, 2) := by decide +kernel
theorem d_A_formOf_9 : decode c_A_formOf 9 = .ok (.if_icmp .gt 5, 3) := by decide +kernel
theorem d_A_formOf_12 : decode c_A_formOf 12 = .ok (.iconst 1, 1) := by decide +kernel
theorem d_A_formOf_13 : decode c_A_formOf 13 = .ok (.ireturn, 1) := by decide +kernel
theorem d_A_formOf_14 : decode c_A_formOf 14 = .ok (.iload_n 0, 1) := by decide +kernel
theorem d_A_formOf_15 : decode c_A_formOf 15 = .ok (.bipush 48, 2) := by decide +kernel
theorem d_A_formOf_17 : decode c_A_formOf 17 = .ok (.if_icmp .lt 9, 3) := by decide +kernel
theorem d_A_formOf_20 : decode c_A_formOf 20 = .ok (.iload_n 0, 1) := by decide +kernel
theorem d_A_formOf_21 : decode c_A_formOf 21 = .ok (.bipush 51, 2) := by decide +kernel
theorem d_A_formOf_23 : decode c_A_formOf 23 = .ok (.if_icmp .le 9, 3) := by decide +kernel
theorem d_A_formOf_26 : decode c_A_formOf 26 = .ok (.iload_n 0, 1) := by decide +kernel
theorem d_A_formOf_27 : decode c_A_formOf 27 = .ok (.bipush 57, 2) := by decide +kernel
theorem d_A_formOf_29 : decode c_A_formOf 29 = .ok (.if_icmp .ne 5, 3) := by decide +kernel
theorem d_A_formOf_32 : decode c_A_formOf 32 = .ok (.iconst 2, 1) := by decide +kernel
theorem d_A_formOf_33 : decode c_A_formOf 33 = .ok (.ireturn, 1) := by decide +kernel
theorem d_A_formOf_34 : decode c_A_formOf 34 = .ok (.iconst 3, 1) := by decide +kernel
theorem d_A_formOf_35 : decode c_A_formOf 35 = .ok (.ireturn, 1) := by decide +kernel
theorem kd_A_formOf : (y_A_formOf).cls = "WindowMachine$Assembler" ∧ (y_A_formOf).cls ≠ "java/lang/invoke/MethodHandle" ∧ (y_A_formOf).cls ≠ "java/lang/invoke/VarHandle" ∧ (parseMethodDescriptor (y_A_formOf).desc).map (fun d => d.parameters.length) = some 1 := by decide +kernel
def f_formOf (p0 : Int32) : Int32 := (if p0 < (40 : Int32) then (if p0 < (48 : Int32) then (if p0 = (57 : Int32) then (2 : Int32) else (3 : Int32)) else (if p0 ≤ (51 : Int32) then (2 : Int32) else (if p0 = (57 : Int32) then (2 : Int32) else (3 : Int32)))) else (if (43 : Int32) < p0 then (if p0 < (48 : Int32) then (if p0 = (57 : Int32) then (2 : Int32) else (3 : Int32)) else (if p0 ≤ (51 : Int32) then (2 : Int32) else (if p0 = (57 : Int32) then (2 : Int32) else (3 : Int32)))) else (1 : Int32)))
set_option maxHeartbeats 4000000 in
set_option maxRecDepth 100000 in
theorem mt_A_formOf (l : Launch) (D : va_G) (sz : Nat) (p0 : Int32) : Met l y_A_formOf w_A_formOf ({ frames := 0, cells := 0, slots := 0, locals := 0 }) (va_Pc [.int p0] (zw_pre D vwCl [] sz ([]) (fun _ => True))) (va_Qi (fun r (_ : Unit) => r = f_formOf p0) (fun u t => zw_at D vwCl (va_A ([]) sz) ((fun (_ : Unit) => []) u) t) (va_A ([]) sz)) 0 0 (va_A ([]) sz) := by
  refine zm (Qf := fun A => va_Qi (fun r (_ : Unit) => r = f_formOf p0) (fun u t => zw_at D vwCl A ((fun (_ : Unit) => []) u) t) A) (Zf := fun _ _ => True) (cc := c_A_formOf) (nL := 1) (ret := (some .int)) (by decide) rfl (Nat.le_of_ble_eq_true rfl) ?_
  intro p e s m below meth c9 A H locs ls hx hb hml hown hts hr hlocks hA hK hP hD hS hZ hl
  have hl : lv_has ls 1 [(0, .int p0)] := hl
  have ht : ∀ w9 ∈ zT, w9.before _ s = true := fun w9 h9 => hts w9 (List.mem_cons_of_mem _ h9)
  refine lv_iload_n hx hb d_A_formOf_0 rfl (lv_at hl 0 rfl) ?_
  refine lv_bipush (v := (40 : Int32)) hx hb d_A_formOf_1 (by decide) ?_
  refine lv_icmp_lt (tgt := 14) hx hb d_A_formOf_3 (by decide) (fun c_1 => ?_) (fun c_1 => ?_)
  · refine lv_iload_n hx hb d_A_formOf_14 rfl (lv_at hl 0 rfl) ?_
    refine lv_bipush (v := (48 : Int32)) hx hb d_A_formOf_15 (by decide) ?_
    refine lv_icmp_lt (tgt := 26) hx hb d_A_formOf_17 (by decide) (fun c_2 => ?_) (fun c_2 => ?_)
    · refine lv_iload_n hx hb d_A_formOf_26 rfl (lv_at hl 0 rfl) ?_
      refine lv_bipush (v := (57 : Int32)) hx hb d_A_formOf_27 (by decide) ?_
      refine lv_icmp_ne (tgt := 34) hx hb d_A_formOf_29 (by decide) (fun c_3 => ?_) (fun c_3 => ?_)
      · refine lv_iconst (v := (3 : Int32)) hx hb d_A_formOf_34 (by decide) ?_
        exact zl_i (u := ()) hx hb hr hlocks hS hP hD (by simp only [f_formOf, if_pos c_1, if_pos c_2, if_neg c_3]) d_A_formOf_35
      refine lv_iconst (v := (2 : Int32)) hx hb d_A_formOf_32 (by decide) ?_
      exact zl_i (u := ()) hx hb hr hlocks hS hP hD (by simp only [f_formOf, if_pos c_1, if_pos c_2, if_pos c_3]) d_A_formOf_33
    refine lv_iload_n hx hb d_A_formOf_20 rfl (lv_at hl 0 rfl) ?_
    refine lv_bipush (v := (51 : Int32)) hx hb d_A_formOf_21 (by decide) ?_
    refine lv_icmp_le (tgt := 32) hx hb d_A_formOf_23 (by decide) (fun c_4 => ?_) (fun c_4 => ?_)
    · refine lv_iconst (v := (2 : Int32)) hx hb d_A_formOf_32 (by decide) ?_
      exact zl_i (u := ()) hx hb hr hlocks hS hP hD (by simp only [f_formOf, if_pos c_1, if_neg c_2, if_pos c_4]) d_A_formOf_33
    refine lv_iload_n hx hb d_A_formOf_26 rfl (lv_at hl 0 rfl) ?_
    refine lv_bipush (v := (57 : Int32)) hx hb d_A_formOf_27 (by decide) ?_
    refine lv_icmp_ne (tgt := 34) hx hb d_A_formOf_29 (by decide) (fun c_5 => ?_) (fun c_5 => ?_)
    · refine lv_iconst (v := (3 : Int32)) hx hb d_A_formOf_34 (by decide) ?_
      exact zl_i (u := ()) hx hb hr hlocks hS hP hD (by simp only [f_formOf, if_pos c_1, if_neg c_2, if_neg c_4, if_neg c_5]) d_A_formOf_35
    refine lv_iconst (v := (2 : Int32)) hx hb d_A_formOf_32 (by decide) ?_
    exact zl_i (u := ()) hx hb hr hlocks hS hP hD (by simp only [f_formOf, if_pos c_1, if_neg c_2, if_neg c_4, if_pos c_5]) d_A_formOf_33
  refine lv_iload_n hx hb d_A_formOf_6 rfl (lv_at hl 0 rfl) ?_
  refine lv_bipush (v := (43 : Int32)) hx hb d_A_formOf_7 (by decide) ?_
  refine lv_icmp_gt (tgt := 14) hx hb d_A_formOf_9 (by decide) (fun c_6 => ?_) (fun c_6 => ?_)
  · refine lv_iload_n hx hb d_A_formOf_14 rfl (lv_at hl 0 rfl) ?_
    refine lv_bipush (v := (48 : Int32)) hx hb d_A_formOf_15 (by decide) ?_
    refine lv_icmp_lt (tgt := 26) hx hb d_A_formOf_17 (by decide) (fun c_7 => ?_) (fun c_7 => ?_)
    · refine lv_iload_n hx hb d_A_formOf_26 rfl (lv_at hl 0 rfl) ?_
      refine lv_bipush (v := (57 : Int32)) hx hb d_A_formOf_27 (by decide) ?_
      refine lv_icmp_ne (tgt := 34) hx hb d_A_formOf_29 (by decide) (fun c_8 => ?_) (fun c_8 => ?_)
      · refine lv_iconst (v := (3 : Int32)) hx hb d_A_formOf_34 (by decide) ?_
        exact zl_i (u := ()) hx hb hr hlocks hS hP hD (by simp only [f_formOf, if_neg c_1, if_pos c_6, if_pos c_7, if_neg c_8]) d_A_formOf_35
      refine lv_iconst (v := (2 : Int32)) hx hb d_A_formOf_32 (by decide) ?_
      exact zl_i (u := ()) hx hb hr hlocks hS hP hD (by simp only [f_formOf, if_neg c_1, if_pos c_6, if_pos c_7, if_pos c_8]) d_A_formOf_33
    refine lv_iload_n hx hb d_A_formOf_20 rfl (lv_at hl 0 rfl) ?_
    refine lv_bipush (v := (51 : Int32)) hx hb d_A_formOf_21 (by decide) ?_
    refine lv_icmp_le (tgt := 32) hx hb d_A_formOf_23 (by decide) (fun c_9 => ?_) (fun c_9 => ?_)
    · refine lv_iconst (v := (2 : Int32)) hx hb d_A_formOf_32 (by decide) ?_
      exact zl_i (u := ()) hx hb hr hlocks hS hP hD (by simp only [f_formOf, if_neg c_1, if_pos c_6, if_neg c_7, if_pos c_9]) d_A_formOf_33
    refine lv_iload_n hx hb d_A_formOf_26 rfl (lv_at hl 0 rfl) ?_
    refine lv_bipush (v := (57 : Int32)) hx hb d_A_formOf_27 (by decide) ?_
    refine lv_icmp_ne (tgt := 34) hx hb d_A_formOf_29 (by decide) (fun c_10 => ?_) (fun c_10 => ?_)
    · refine lv_iconst (v := (3 : Int32)) hx hb d_A_formOf_34 (by decide) ?_
      exact zl_i (u := ()) hx hb hr hlocks hS hP hD (by simp only [f_formOf, if_neg c_1, if_pos c_6, if_neg c_7, if_neg c_9, if_neg c_10]) d_A_formOf_35
    refine lv_iconst (v := (2 : Int32)) hx hb d_A_formOf_32 (by decide) ?_
    exact zl_i (u := ()) hx hb hr hlocks hS hP hD (by simp only [f_formOf, if_neg c_1, if_pos c_6, if_neg c_7, if_neg c_9, if_pos c_10]) d_A_formOf_33
  refine lv_iconst (v := (1 : Int32)) hx hb d_A_formOf_12 (by decide) ?_
  exact zl_i (u := ()) hx hb hr hlocks hS hP hD (by simp only [f_formOf, if_neg c_1, if_neg c_6]) d_A_formOf_13
theorem d_A_octetOf_0 : decode c_A_octetOf 0 = .ok (.lload_n 0, 1) := by decide +kernel
theorem d_A_octetOf_1 : decode c_A_octetOf 1 = .ok (.bipush 8, 2) := by decide +kernel
theorem d_A_octetOf_3 : decode c_A_octetOf 3 = .ok (.iload_n 2, 1) := by decide +kernel
theorem d_A_octetOf_4 : decode c_A_octetOf 4 = .ok (.imul, 1) := by decide +kernel
theorem d_A_octetOf_5 : decode c_A_octetOf 5 = .ok (.lushr, 1) := by decide +kernel
theorem d_A_octetOf_6 : decode c_A_octetOf 6 = .ok (.l2i, 1) := by decide +kernel
theorem d_A_octetOf_7 : decode c_A_octetOf 7 = .ok (.sipush 255, 3) := by decide +kernel
theorem d_A_octetOf_10 : decode c_A_octetOf 10 = .ok (.iand, 1) := by decide +kernel
theorem d_A_octetOf_11 : decode c_A_octetOf 11 = .ok (.ireturn, 1) := by decide +kernel
theorem kd_A_octetOf : (y_A_octetOf).cls = "WindowMachine$Assembler" ∧ (y_A_octetOf).cls ≠ "java/lang/invoke/MethodHandle" ∧ (y_A_octetOf).cls ≠ "java/lang/invoke/VarHandle" ∧ (parseMethodDescriptor (y_A_octetOf).desc).map (fun d => d.parameters.length) = some 2 := by decide +kernel
def f_octetOf (p0 : Int64) (p1 : Int32) : Int32 := ((zlushr p0 ((8 : Int32) * p1)).toInt32) &&& (255 : Int32)
set_option maxHeartbeats 4000000 in
set_option maxRecDepth 100000 in
theorem mt_A_octetOf (l : Launch) (D : va_G) (sz : Nat) (p0 : Int64) (p1 : Int32) : Met l y_A_octetOf w_A_octetOf ({ frames := 0, cells := 0, slots := 0, locals := 0 }) (va_Pc [.long p0, .int p1] (zw_pre D vwCl [] sz ([]) (fun _ => True))) (va_Qi (fun r (_ : Unit) => r = f_octetOf p0 p1) (fun u t => zw_at D vwCl (va_A ([]) sz) ((fun (_ : Unit) => []) u) t) (va_A ([]) sz)) 0 0 (va_A ([]) sz) := by
  refine zm (Qf := fun A => va_Qi (fun r (_ : Unit) => r = f_octetOf p0 p1) (fun u t => zw_at D vwCl A ((fun (_ : Unit) => []) u) t) A) (Zf := fun _ _ => True) (cc := c_A_octetOf) (nL := 3) (ret := (some .int)) (by decide) rfl (Nat.le_of_ble_eq_true rfl) ?_
  intro p e s m below meth c9 A H locs ls hx hb hml hown hts hr hlocks hA hK hP hD hS hZ hl
  have hl : lv_has ls 3 [(0, .long p0), (2, .int p1)] := hl
  have ht : ∀ w9 ∈ zT, w9.before _ s = true := fun w9 h9 => hts w9 (List.mem_cons_of_mem _ h9)
  refine lv_lload_n hx hb d_A_octetOf_0 rfl (lv_at hl 0 rfl) ?_
  refine lv_bipush (v := (8 : Int32)) hx hb d_A_octetOf_1 (by decide) ?_
  refine lv_iload_n hx hb d_A_octetOf_3 rfl (lv_at hl 1 rfl) ?_
  refine lv_imul hx hb d_A_octetOf_4 ?_
  refine lv_lushr (v := zlushr p0 ((8 : Int32) * p1)) hx hb d_A_octetOf_5 rfl ?_
  refine lv_l2i (v := (zlushr p0 ((8 : Int32) * p1)).toInt32) hx hb d_A_octetOf_6 rfl ?_
  refine lv_sipush (v := (255 : Int32)) hx hb d_A_octetOf_7 (by decide) ?_
  refine lv_iand hx hb d_A_octetOf_10 ?_
  exact zl_i (u := ()) hx hb hr hlocks hS hP hD (by simp only [f_octetOf]) d_A_octetOf_11
theorem d_A_lettersIn_0 : decode c_A_lettersIn 0 = .ok (.iconst 0, 1) := by decide +kernel
theorem d_A_lettersIn_1 : decode c_A_lettersIn 1 = .ok (.istore_n 2, 1) := by decide +kernel
theorem d_A_lettersIn_2 : decode c_A_lettersIn 2 = .ok (.iload_n 2, 1) := by decide +kernel
theorem d_A_lettersIn_3 : decode c_A_lettersIn 3 = .ok (.bipush 8, 2) := by decide +kernel
theorem d_A_lettersIn_5 : decode c_A_lettersIn 5 = .ok (.if_icmp .ge 37, 3) := by decide +kernel
theorem d_A_lettersIn_8 : decode c_A_lettersIn 8 = .ok (.lload_n 0, 1) := by decide +kernel
theorem d_A_lettersIn_9 : decode c_A_lettersIn 9 = .ok (.iload_n 2, 1) := by decide +kernel
theorem d_A_lettersIn_10 : decode c_A_lettersIn 10 = .ok (.invokestatic 19, 3) := by decide +kernel
theorem d_A_lettersIn_13 : decode c_A_lettersIn 13 = .ok (.ifCond .eq 29, 3) := by decide +kernel
theorem d_A_lettersIn_16 : decode c_A_lettersIn 16 = .ok (.lload_n 0, 1) := by decide +kernel
theorem d_A_lettersIn_17 : decode c_A_lettersIn 17 = .ok (.iload_n 2, 1) := by decide +kernel
theorem d_A_lettersIn_18 : decode c_A_lettersIn 18 = .ok (.invokestatic 19, 3) := by decide +kernel
theorem d_A_lettersIn_21 : decode c_A_lettersIn 21 = .ok (.istore_n 3, 1) := by decide +kernel
theorem d_A_lettersIn_22 : decode c_A_lettersIn 22 = .ok (.iload_n 3, 1) := by decide +kernel
theorem d_A_lettersIn_23 : decode c_A_lettersIn 23 = .ok (.bipush 32, 2) := by decide +kernel
theorem d_A_lettersIn_25 : decode c_A_lettersIn 25 = .ok (.if_icmp .lt 9, 3) := by decide +kernel
theorem d_A_lettersIn_28 : decode c_A_lettersIn 28 = .ok (.iload_n 3, 1) := by decide +kernel
theorem d_A_lettersIn_29 : decode c_A_lettersIn 29 = .ok (.bipush 126, 2) := by decide +kernel
theorem d_A_lettersIn_31 : decode c_A_lettersIn 31 = .ok (.if_icmp .le 5, 3) := by decide +kernel
theorem d_A_lettersIn_34 : decode c_A_lettersIn 34 = .ok (.iconst 0, 1) := by decide +kernel
theorem d_A_lettersIn_35 : decode c_A_lettersIn 35 = .ok (.ireturn, 1) := by decide +kernel
theorem d_A_lettersIn_36 : decode c_A_lettersIn 36 = .ok (.iinc 2 1, 3) := by decide +kernel
theorem d_A_lettersIn_39 : decode c_A_lettersIn 39 = .ok (.goto (-37), 3) := by decide +kernel
theorem d_A_lettersIn_42 : decode c_A_lettersIn 42 = .ok (.iload_n 2, 1) := by decide +kernel
theorem d_A_lettersIn_43 : decode c_A_lettersIn 43 = .ok (.ireturn, 1) := by decide +kernel
theorem kd_A_lettersIn : (y_A_lettersIn).cls = "WindowMachine$Assembler" ∧ (y_A_lettersIn).cls ≠ "java/lang/invoke/MethodHandle" ∧ (y_A_lettersIn).cls ≠ "java/lang/invoke/VarHandle" ∧ (parseMethodDescriptor (y_A_lettersIn).desc).map (fun d => d.parameters.length) = some 1 := by decide +kernel
def fl_A_lettersIn_2 (p0 : Int64) : Nat → Nat → Int32
  | 0, _ => 0
  | n9 + 1, i_1 => (if (8 : Int32) ≤ (nI i_1) then nI i_1 else (if (f_octetOf p0 (nI i_1)) = (0 : Int32) then nI i_1 else (if (f_octetOf p0 (nI i_1)) < (32 : Int32) then (0 : Int32) else (if (f_octetOf p0 (nI i_1)) ≤ (126 : Int32) then fl_A_lettersIn_2 p0 n9 (i_1 + 1) else (0 : Int32)))))
def f_lettersIn (p0 : Int64) : Int32 := fl_A_lettersIn_2 p0 9 0
set_option maxHeartbeats 4000000 in
set_option maxRecDepth 100000 in
theorem mt_A_lettersIn (l : Launch) (D : va_G) (sz : Nat) (p0 : Int64) : Met l y_A_lettersIn w_A_lettersIn ({ frames := 1, cells := 0, slots := 0, locals := 22 }) (va_Pc [.long p0] (zw_pre D vwCl [] sz ([]) (fun _ => True))) (va_Qi (fun r (_ : Unit) => r = f_lettersIn p0) (fun u t => zw_at D vwCl (va_A ([]) sz) ((fun (_ : Unit) => []) u) t) (va_A ([]) sz)) 0 0 (va_A ([]) sz) := by
  refine zm (Qf := fun A => va_Qi (fun r (_ : Unit) => r = f_lettersIn p0) (fun u t => zw_at D vwCl A ((fun (_ : Unit) => []) u) t) A) (Zf := fun _ _ => True) (cc := c_A_lettersIn) (nL := 4) (ret := (some .int)) (by decide) rfl (Nat.le_of_ble_eq_true rfl) ?_
  intro p e s m below meth c9 A H locs ls hx hb hml hown hts hr hlocks hA hK hP hD hS hZ hl
  have hl : lv_has ls 4 [(0, .long p0)] := hl
  have ht : ∀ w9 ∈ zT, w9.before _ s = true := fun w9 h9 => hts w9 (List.mem_cons_of_mem _ h9)
  refine lv_iconst (v := (0 : Int32)) hx hb d_A_lettersIn_0 (by decide) ?_
  refine lv_istore_n (lv' := [(2, .int (0 : Int32)), (0, .long p0)]) hx hb d_A_lettersIn_1 rfl hl (by decide) rfl (fun ls hl => ?_)
  refine zloop (X := Nat) (G := fun n9 v9 H locs ls => f_lettersIn p0 = fl_A_lettersIn_2 p0 n9 v9 ∧ (v9 + n9 = 9 ∧ v9 ≤ 8) ∧ va_P D vwCl ([]) H ∧ va_D A ([]) ∧ va_S A s.heap H locs ∧ lv_has ls 4 [(0, .long p0), (2, .int (nI v9))]) (fr := fun v9 ls => F0 m 2 ls []) (n := 9) (v := 0) (fun n9 ih v9 H locs ls hG => ?_) (fun v9 H locs ls hG => ?_) ⟨(by simp only [f_lettersIn]), (by decide), hP, hD, hS, (lv_sub hl [1, 0] rfl)⟩
  · obtain ⟨i_1, rfl⟩ : ∃ z, z = v9 := ⟨_, rfl⟩
    obtain ⟨hF_2, hI, hP, hD, hS, hl⟩ := hG
    refine lv_iload_n hx hb d_A_lettersIn_2 rfl (lv_at hl 1 rfl) ?_
    refine lv_bipush (v := (8 : Int32)) hx hb d_A_lettersIn_3 (by decide) ?_
    refine lv_icmp_ge (tgt := 42) hx hb d_A_lettersIn_5 (by decide) (fun c_3 => ?_) (fun c_3 => ?_)
    · refine lv_iload_n hx hb d_A_lettersIn_42 rfl (lv_at hl 1 rfl) ?_
      exact zl_i (u := ()) hx hb hr hlocks hS hP hD (by rw [hF_2]; simp only [fl_A_lettersIn_2, if_pos c_3]) d_A_lettersIn_43
    refine lv_lload_n hx hb d_A_lettersIn_8 rfl (lv_at hl 0 rfl) ?_
    refine lv_iload_n hx hb d_A_lettersIn_9 rfl (lv_at hl 1 rfl) ?_
    refine zc_i (w2 := fun _ => []) (va_runS (As := [.long p0, .int (nI i_1)]) (rest := []) ⟨hx, hb, hml, hown, ht⟩ (mt_A_octetOf l D H.size p0 (nI i_1)) (cwS 2 ht (zgS zw_200 zw_201 zw_3 zw_202) rfl rfl rfl kd_A_octetOf ⟨Nat.le_of_ble_eq_true rfl, Nat.le_of_ble_eq_true rfl⟩) ⟨zw_blind zw_tt, zw_go (hP.sub (ws' := []) [] rfl) (hD.sub (ws' := []) [] (by decide) rfl) (hK.sub (tys' := []) [] rfl) (fun _ _ _ => trivial)⟩ rfl rfl hl.1 rfl (lv_room (Nat.le_of_ble_eq_true rfl)) d_A_lettersIn_10 ⟨Nat.le_of_ble_eq_true rfl, Nat.le_of_ble_eq_true rfl⟩) hP hD hS hA [] [] [] rfl rfl (by decide) (by decide) (by decide) (fun _ => rfl) (fun r_4 _ H locs hw hP hD hS => ?_)
    subst hw
    refine lv_if_eq (tgt := 42) hx hb d_A_lettersIn_13 (by decide) (fun c_5 => ?_) (fun c_5 => ?_)
    · refine lv_iload_n hx hb d_A_lettersIn_42 rfl (lv_at hl 1 rfl) ?_
      exact zl_i (u := ()) hx hb hr hlocks hS hP hD (by rw [hF_2]; simp only [fl_A_lettersIn_2, if_neg c_3, if_pos c_5]) d_A_lettersIn_43
    refine lv_lload_n hx hb d_A_lettersIn_16 rfl (lv_at hl 0 rfl) ?_
    refine lv_iload_n hx hb d_A_lettersIn_17 rfl (lv_at hl 1 rfl) ?_
    refine zc_i (w2 := fun _ => []) (va_runS (As := [.long p0, .int (nI i_1)]) (rest := []) ⟨hx, hb, hml, hown, ht⟩ (mt_A_octetOf l D H.size p0 (nI i_1)) (cwS 2 ht (zgS zw_200 zw_201 zw_3 zw_202) rfl rfl rfl kd_A_octetOf ⟨Nat.le_of_ble_eq_true rfl, Nat.le_of_ble_eq_true rfl⟩) ⟨zw_blind zw_tt, zw_go (hP.sub (ws' := []) [] rfl) (hD.sub (ws' := []) [] (by decide) rfl) (hK.sub (tys' := []) [] rfl) (fun _ _ _ => trivial)⟩ rfl rfl hl.1 rfl (lv_room (Nat.le_of_ble_eq_true rfl)) d_A_lettersIn_18 ⟨Nat.le_of_ble_eq_true rfl, Nat.le_of_ble_eq_true rfl⟩) hP hD hS hA [] [] [] rfl rfl (by decide) (by decide) (by decide) (fun _ => rfl) (fun r_6 _ H locs hw hP hD hS => ?_)
    subst hw
    refine lv_istore_n (lv' := [(3, .int (f_octetOf p0 (nI i_1))), (0, .long p0), (2, .int (nI i_1))]) hx hb d_A_lettersIn_21 rfl hl (by decide) rfl (fun ls hl => ?_)
    refine lv_iload_n hx hb d_A_lettersIn_22 rfl (lv_at hl 0 rfl) ?_
    refine lv_bipush (v := (32 : Int32)) hx hb d_A_lettersIn_23 (by decide) ?_
    refine lv_icmp_lt (tgt := 34) hx hb d_A_lettersIn_25 (by decide) (fun c_7 => ?_) (fun c_7 => ?_)
    · refine lv_iconst (v := (0 : Int32)) hx hb d_A_lettersIn_34 (by decide) ?_
      exact zl_i (u := ()) hx hb hr hlocks hS hP hD (by rw [hF_2]; simp only [fl_A_lettersIn_2, if_neg c_3, if_neg c_5, if_pos c_7]) d_A_lettersIn_35
    refine lv_iload_n hx hb d_A_lettersIn_28 rfl (lv_at hl 0 rfl) ?_
    refine lv_bipush (v := (126 : Int32)) hx hb d_A_lettersIn_29 (by decide) ?_
    refine lv_icmp_le (tgt := 36) hx hb d_A_lettersIn_31 (by decide) (fun c_8 => ?_) (fun c_8 => ?_)
    · refine lv_iinc (v := (nI i_1) + (1 : Int32)) (lv' := [(2, .int ((nI i_1) + (1 : Int32))), (3, .int (f_octetOf p0 (nI i_1))), (0, .long p0)]) hx hb d_A_lettersIn_36 hl (k := 2) rfl rfl (by decide) rfl (fun ls hl => ?_)
      refine lv_goto (tgt := 2) hx hb d_A_lettersIn_39 (by decide) ?_
      have hl : lv_has ls 4 [(0, .long p0), (2, .int (nI (i_1 + 1)))] := by rw [← nI_1 i_1]; exact (lv_sub hl [2, 0] rfl)
      exact ih (i_1 + 1) _ _ _ ⟨by rw [hF_2]; simp only [fl_A_lettersIn_2, if_neg c_3, if_neg c_5, if_neg c_7, if_pos c_8], ⟨by omega, znlt (N := 8) (by omega) c_3⟩, hP, hD, hS, hl⟩
    refine lv_iconst (v := (0 : Int32)) hx hb d_A_lettersIn_34 (by decide) ?_
    exact zl_i (u := ()) hx hb hr hlocks hS hP hD (by rw [hF_2]; simp only [fl_A_lettersIn_2, if_neg c_3, if_neg c_5, if_neg c_7, if_neg c_8]) d_A_lettersIn_35
  · obtain ⟨i_1, rfl⟩ : ∃ z, z = v9 := ⟨_, rfl⟩
    obtain ⟨-, hI, -⟩ := hG
    exact (by omega)
