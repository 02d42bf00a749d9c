theorem d_A_translate_0 : decode c_A_translate 0 = .ok (.aload_n 0, 1) := by decide +kernel
theorem d_A_translate_1 : decode c_A_translate 1 = .ok (.iconst 0, 1) := by decide +kernel
theorem d_A_translate_2 : decode c_A_translate 2 = .ok (.putfield 26, 3) := by decide +kernel
theorem d_A_translate_5 : decode c_A_translate 5 = .ok (.aload_n 0, 1) := by decide +kernel
theorem d_A_translate_6 : decode c_A_translate 6 = .ok (.iconst (-1), 1) := by decide +kernel
theorem d_A_translate_7 : decode c_A_translate 7 = .ok (.putfield 15, 3) := by decide +kernel
theorem d_A_translate_10 : decode c_A_translate 10 = .ok (.aload_n 0, 1) := by decide +kernel
theorem d_A_translate_11 : decode c_A_translate 11 = .ok (.getfield 26, 3) := by decide +kernel
theorem d_A_translate_14 : decode c_A_translate 14 = .ok (.aload_n 0, 1) := by decide +kernel
theorem d_A_translate_15 : decode c_A_translate 15 = .ok (.getfield 23, 3) := by decide +kernel
theorem d_A_translate_18 : decode c_A_translate 18 = .ok (.if_icmp .ge 44, 3) := by decide +kernel
theorem d_A_translate_21 : decode c_A_translate 21 = .ok (.aload_n 0, 1) := by decide +kernel
theorem d_A_translate_22 : decode c_A_translate 22 = .ok (.getfield 11, 3) := by decide +kernel
theorem d_A_translate_25 : decode c_A_translate 25 = .ok (.aload_n 0, 1) := by decide +kernel
theorem d_A_translate_26 : decode c_A_translate 26 = .ok (.getfield 26, 3) := by decide +kernel
theorem d_A_translate_29 : decode c_A_translate 29 = .ok (.caload, 1) := by decide +kernel
theorem d_A_translate_30 : decode c_A_translate 30 = .ok (.bipush 97, 2) := by decide +kernel
theorem d_A_translate_32 : decode c_A_translate 32 = .ok (.if_icmp .lt 30, 3) := by decide +kernel
theorem d_A_translate_35 : decode c_A_translate 35 = .ok (.aload_n 0, 1) := by decide +kernel
theorem d_A_translate_36 : decode c_A_translate 36 = .ok (.getfield 11, 3) := by decide +kernel
theorem d_A_translate_39 : decode c_A_translate 39 = .ok (.aload_n 0, 1) := by decide +kernel
theorem d_A_translate_40 : decode c_A_translate 40 = .ok (.getfield 26, 3) := by decide +kernel
theorem d_A_translate_43 : decode c_A_translate 43 = .ok (.caload, 1) := by decide +kernel
theorem d_A_translate_44 : decode c_A_translate 44 = .ok (.bipush 122, 2) := by decide +kernel
theorem d_A_translate_46 : decode c_A_translate 46 = .ok (.if_icmp .gt 16, 3) := by decide +kernel
theorem d_A_translate_49 : decode c_A_translate 49 = .ok (.aload_n 0, 1) := by decide +kernel
theorem d_A_translate_50 : decode c_A_translate 50 = .ok (.dup, 1) := by decide +kernel
theorem d_A_translate_51 : decode c_A_translate 51 = .ok (.getfield 26, 3) := by decide +kernel
theorem d_A_translate_54 : decode c_A_translate 54 = .ok (.iconst 1, 1) := by decide +kernel
theorem d_A_translate_55 : decode c_A_translate 55 = .ok (.iadd, 1) := by decide +kernel
theorem d_A_translate_56 : decode c_A_translate 56 = .ok (.putfield 26, 3) := by decide +kernel
theorem d_A_translate_59 : decode c_A_translate 59 = .ok (.goto (-49), 3) := by decide +kernel
theorem d_A_translate_62 : decode c_A_translate 62 = .ok (.aload_n 0, 1) := by decide +kernel
theorem d_A_translate_63 : decode c_A_translate 63 = .ok (.invokevirtual 29, 3) := by decide +kernel
theorem d_A_translate_66 : decode c_A_translate 66 = .ok (.istore_n 1, 1) := by decide +kernel
theorem d_A_translate_67 : decode c_A_translate 67 = .ok (.iload_n 1, 1) := by decide +kernel
theorem d_A_translate_68 : decode c_A_translate 68 = .ok (.ifCond .ne 11, 3) := by decide +kernel
theorem d_A_translate_71 : decode c_A_translate 71 = .ok (.aload_n 0, 1) := by decide +kernel
theorem d_A_translate_72 : decode c_A_translate 72 = .ok (.iconst 0, 1) := by decide +kernel
theorem d_A_translate_73 : decode c_A_translate 73 = .ok (.putfield 15, 3) := by decide +kernel
theorem d_A_translate_76 : decode c_A_translate 76 = .ok (.goto 10, 3) := by decide +kernel
theorem d_A_translate_79 : decode c_A_translate 79 = .ok (.iload_n 1, 1) := by decide +kernel
theorem d_A_translate_80 : decode c_A_translate 80 = .ok (.aload_n 0, 1) := by decide +kernel
theorem d_A_translate_81 : decode c_A_translate 81 = .ok (.invokevirtual 33, 3) := by decide +kernel
theorem d_A_translate_84 : decode c_A_translate 84 = .ok (.ior, 1) := by decide +kernel
theorem d_A_translate_85 : decode c_A_translate 85 = .ok (.istore_n 1, 1) := by decide +kernel
theorem d_A_translate_86 : decode c_A_translate 86 = .ok (.aload_n 0, 1) := by decide +kernel
theorem d_A_translate_87 : decode c_A_translate 87 = .ok (.invokevirtual 36, 3) := by decide +kernel
theorem d_A_translate_90 : decode c_A_translate 90 = .ok (.ifCond .eq 22, 3) := by decide +kernel
theorem d_A_translate_93 : decode c_A_translate 93 = .ok (.aload_n 0, 1) := by decide +kernel
theorem d_A_translate_94 : decode c_A_translate 94 = .ok (.getfield 26, 3) := by decide +kernel
theorem d_A_translate_97 : decode c_A_translate 97 = .ok (.aload_n 0, 1) := by decide +kernel
theorem d_A_translate_98 : decode c_A_translate 98 = .ok (.getfield 23, 3) := by decide +kernel
theorem d_A_translate_101 : decode c_A_translate 101 = .ok (.if_icmp .ge 11, 3) := by decide +kernel
theorem d_A_translate_104 : decode c_A_translate 104 = .ok (.aload_n 0, 1) := by decide +kernel
theorem d_A_translate_105 : decode c_A_translate 105 = .ok (.aload_n 0, 1) := by decide +kernel
theorem d_A_translate_106 : decode c_A_translate 106 = .ok (.getfield 26, 3) := by decide +kernel
theorem d_A_translate_109 : decode c_A_translate 109 = .ok (.putfield 15, 3) := by decide +kernel
theorem d_A_translate_112 : decode c_A_translate 112 = .ok (.aload_n 0, 1) := by decide +kernel
theorem d_A_translate_113 : decode c_A_translate 113 = .ok (.iconst 0, 1) := by decide +kernel
theorem d_A_translate_114 : decode c_A_translate 114 = .ok (.putfield 23, 3) := by decide +kernel
theorem d_A_translate_117 : decode c_A_translate 117 = .ok (.iload_n 1, 1) := by decide +kernel
theorem d_A_translate_118 : decode c_A_translate 118 = .ok (.ireturn, 1) := by decide +kernel
theorem kd_A_translate : (y_A_translate).cls = "WindowMachine$Assembler" ∧ (y_A_translate).cls ≠ "java/lang/invoke/MethodHandle" ∧ (y_A_translate).cls ≠ "java/lang/invoke/VarHandle" ∧ (parseMethodDescriptor (y_A_translate).desc).map (fun d => d.parameters.length) = some 0 := by decide +kernel
def fl_A_translate_10 (st : SA) : Nat → SA → Int32 × SA
  | 0, u_1 => (0, u_1)
  | n9 + 1, u_1 => (if (u_1.1 0) ≤ (u_1.1 1) then (let r_4 := (f_bitsOfName u_1).1; (let u_4 := (f_bitsOfName u_1).2; (if r_4 = (0 : Int32) then (let r_10 := f_isGood (upd u_4.1 2 (0 : Int32), u_4.2); (if r_10 = (0 : Int32) then (r_4, (upd (upd u_4.1 2 (0 : Int32)) 0 (0 : Int32), u_4.2)) else (if (u_4.1 0) ≤ (u_4.1 1) then (r_4, (upd (upd u_4.1 2 (0 : Int32)) 0 (0 : Int32), u_4.2)) else (r_4, (upd (upd (upd u_4.1 2 (0 : Int32)) 2 (u_4.1 1)) 0 (0 : Int32), u_4.2))))) else (let r_6 := (f_operands u_4).1; (let u_6 := (f_operands u_4).2; (let r_7 := f_isGood u_6; (if r_7 = (0 : Int32) then (r_4 ||| r_6, (upd u_6.1 0 (0 : Int32), u_6.2)) else (if (u_6.1 0) ≤ (u_6.1 1) then (r_4 ||| r_6, (upd u_6.1 0 (0 : Int32), u_6.2)) else (r_4 ||| r_6, (upd (upd u_6.1 2 (u_6.1 1)) 0 (0 : Int32), u_6.2)))))))))) else (if (u_1.2 (u_1.1 1).toNatClampNeg) < (97 : Int32) then (let r_14 := (f_bitsOfName u_1).1; (let u_14 := (f_bitsOfName u_1).2; (if r_14 = (0 : Int32) then (let r_20 := f_isGood (upd u_14.1 2 (0 : Int32), u_14.2); (if r_20 = (0 : Int32) then (r_14, (upd (upd u_14.1 2 (0 : Int32)) 0 (0 : Int32), u_14.2)) else (if (u_14.1 0) ≤ (u_14.1 1) then (r_14, (upd (upd u_14.1 2 (0 : Int32)) 0 (0 : Int32), u_14.2)) else (r_14, (upd (upd (upd u_14.1 2 (0 : Int32)) 2 (u_14.1 1)) 0 (0 : Int32), u_14.2))))) else (let r_16 := (f_operands u_14).1; (let u_16 := (f_operands u_14).2; (let r_17 := f_isGood u_16; (if r_17 = (0 : Int32) then (r_14 ||| r_16, (upd u_16.1 0 (0 : Int32), u_16.2)) else (if (u_16.1 0) ≤ (u_16.1 1) then (r_14 ||| r_16, (upd u_16.1 0 (0 : Int32), u_16.2)) else (r_14 ||| r_16, (upd (upd u_16.1 2 (u_16.1 1)) 0 (0 : Int32), u_16.2)))))))))) else (if (122 : Int32) < (u_1.2 (u_1.1 1).toNatClampNeg) then (let r_24 := (f_bitsOfName u_1).1; (let u_24 := (f_bitsOfName u_1).2; (if r_24 = (0 : Int32) then (let r_30 := f_isGood (upd u_24.1 2 (0 : Int32), u_24.2); (if r_30 = (0 : Int32) then (r_24, (upd (upd u_24.1 2 (0 : Int32)) 0 (0 : Int32), u_24.2)) else (if (u_24.1 0) ≤ (u_24.1 1) then (r_24, (upd (upd u_24.1 2 (0 : Int32)) 0 (0 : Int32), u_24.2)) else (r_24, (upd (upd (upd u_24.1 2 (0 : Int32)) 2 (u_24.1 1)) 0 (0 : Int32), u_24.2))))) else (let r_26 := (f_operands u_24).1; (let u_26 := (f_operands u_24).2; (let r_27 := f_isGood u_26; (if r_27 = (0 : Int32) then (r_24 ||| r_26, (upd u_26.1 0 (0 : Int32), u_26.2)) else (if (u_26.1 0) ≤ (u_26.1 1) then (r_24 ||| r_26, (upd u_26.1 0 (0 : Int32), u_26.2)) else (r_24 ||| r_26, (upd (upd u_26.1 2 (u_26.1 1)) 0 (0 : Int32), u_26.2)))))))))) else fl_A_translate_10 st n9 (upd u_1.1 1 ((u_1.1 1) + (1 : Int32)), u_1.2))))
def f_translate (st : SA) : Int32 × SA := fl_A_translate_10 st 42 (upd (upd st.1 1 (0 : Int32)) 2 (-1 : Int32), st.2)
set_option maxHeartbeats 4000000 in
set_option maxRecDepth 100000 in
theorem mt_A_translate (l : Launch) (D : va_G) (za zk zv : Nat → Nat) (a b : Nat) (k : ClassId) (sz : Nat) (st : SA) (hL : 0 ≤ (st.1 0).toInt ∧ (st.1 0).toInt ≤ 40) : Met l y_A_translate w_A_translate ({ frames := 9, cells := 0, slots := 0, locals := 201 }) (va_Pc [.ref a] (zw_pre D vwCl [(k, .char)] sz (wA a b k st) (zz za zk zv (va_A (wA a b k st) sz)))) (va_Qi (fun r (u : SA) => r = (f_translate st).1 ∧ u = (f_translate st).2) (fun u t => zw_at D vwCl (va_A (wA a b k st) sz) ((fun (u : SA) => wA a b k u) u) t) (va_A (wA a b k st) sz)) 0 0 (va_A (wA a b k st) sz) := by
  refine zm (Qf := fun A => va_Qi (fun r (u : SA) => r = (f_translate st).1 ∧ u = (f_translate st).2) (fun u t => zw_at D vwCl A ((fun (u : SA) => wA a b k u) u) t) A) (Zf := fun A => zz za zk zv A) (cc := c_A_translate) (nL := 2) (ret := (some .int)) (by decide) rfl (Nat.le_of_ble_eq_true rfl) ?_
  intro p e s m below meth c9 A H locs ls hx hb hml hown hts hr hlocks hA hK hP hD hS hZ hl
  have hl : lv_has ls 2 [(0, .ref a)] := hl
  have ht : ∀ w9 ∈ zT, w9.before _ s = true := fun w9 h9 => hts w9 (List.mem_cons_of_mem _ h9)
  refine lv_aload_n hx hb d_A_translate_0 rfl (lv_at hl 0 rfl) ?_
  refine lv_iconst (v := (0 : Int32)) hx hb d_A_translate_1 (by decide) ?_
  refine va_put (D := D) (ci := 0) (v := .int (0 : Int32)) (ty := .int) (C := "WindowMachine$Assembler") (T := T_A) (N := 5) hx hb ht zi_A ty_A tyok_A nm_A hown hK hP hD hS 0 rfl rfl 2 (by decide) (ht _ zw_47) (fun _ h9 => h9) rfl (by decide +kernel) rfl rfl (Nat.le_of_ble_eq_true rfl) d_A_translate_2 (fun H locs hP hD hS => ?_)
  have hP : va_P D vwCl (wA a b k (upd st.1 1 (0 : Int32), st.2)) H := hP
  have hD : va_D A (wA a b k (upd st.1 1 (0 : Int32), st.2)) := hD
  refine lv_aload_n hx hb d_A_translate_5 rfl (lv_at hl 0 rfl) ?_
  refine lv_iconst (v := (-1 : Int32)) hx hb d_A_translate_6 (by decide) ?_
  refine va_put (D := D) (ci := 0) (v := .int (-1 : Int32)) (ty := .int) (C := "WindowMachine$Assembler") (T := T_A) (N := 5) hx hb ht zi_A ty_A tyok_A nm_A hown hK hP hD hS 0 rfl rfl 3 (by decide) (ht _ zw_48) (fun _ h9 => h9) rfl (by decide +kernel) rfl rfl (Nat.le_of_ble_eq_true rfl) d_A_translate_7 (fun H locs hP hD hS => ?_)
  have hP : va_P D vwCl (wA a b k (upd (upd st.1 1 (0 : Int32)) 2 (-1 : Int32), st.2)) H := hP
  have hD : va_D A (wA a b k (upd (upd st.1 1 (0 : Int32)) 2 (-1 : Int32), st.2)) := hD
  refine zloop (X := SA) (G := fun n9 v9 H locs ls => f_translate st = fl_A_translate_10 st n9 v9 ∧ (okA v9 ∧ ((v9).1 1).toInt + (n9 : Int) = 42) ∧ va_P D vwCl (wA a b k v9) H ∧ va_D A (wA a b k v9) ∧ va_S A s.heap H locs ∧ lv_has ls 2 [(0, .ref a)]) (fr := fun v9 ls => F0 m 10 ls []) (n := 42) (v := (upd (upd st.1 1 (0 : Int32)) 2 (-1 : Int32), st.2)) (fun n9 ih v9 H locs ls hG => ?_) (fun v9 H locs ls hG => ?_) ⟨(by simp only [f_translate]), ⟨tr_ok hL, rfl⟩, hP, hD, hS, hl⟩
  · obtain ⟨u_1, rfl⟩ : ∃ z, z = v9 := ⟨_, rfl⟩
    obtain ⟨hF_2, hI, hP, hD, hS, hl⟩ := hG
    refine lv_aload_n hx hb d_A_translate_10 rfl (lv_at hl 0 rfl) ?_
    refine va_get (D := D) (ci := 0) (v := .int (u_1.1 1)) (C := "WindowMachine$Assembler") (T := T_A) (N := 5) hx hb ht zi_A hown hK hP 0 rfl rfl 2 (by decide) (ht _ zw_47) (fun _ h9 => h9) rfl d_A_translate_11 ?_
    refine lv_aload_n hx hb d_A_translate_14 rfl (lv_at hl 0 rfl) ?_
    refine va_get (D := D) (ci := 0) (v := .int (u_1.1 0)) (C := "WindowMachine$Assembler") (T := T_A) (N := 5) hx hb ht zi_A hown hK hP 0 rfl rfl 1 (by decide) (ht _ zw_46) (fun _ h9 => h9) rfl d_A_translate_15 ?_
    refine lv_icmp_ge (tgt := 62) hx hb d_A_translate_18 (by decide) (fun c_3 => ?_) (fun c_3 => ?_)
    · refine lv_aload_n hx hb d_A_translate_62 rfl (lv_at hl 0 rfl) ?_
      refine zc_i (w2 := fun u9 => wA a b k u9) (va_runV (As := []) (rest := []) ⟨hx, hb, hml, hown, ht⟩ (mt_A_bitsOfName l D za zk zv a b k H.size u_1 hI.1) (cwV 0 ht (zgV zw_306 zw_308 zs_2 zw_3 zw_309) rfl rfl rfl kd_A_bitsOfName ⟨Nat.le_of_ble_eq_true rfl, Nat.le_of_ble_eq_true rfl⟩) ⟨zw_blind zz_bl, va_recv (hK.sub (tys' := [(k, .char)]) [0] rfl) (hP.sub (ws' := wA a b k u_1) [0, 1] rfl) (ci := 0) (q0 := 0) rfl rfl, zw_go (hP.sub (ws' := wA a b k u_1) [0, 1] rfl) (hD.sub (ws' := wA a b k u_1) [0, 1] (by decide) rfl) (hK.sub (tys' := [(k, .char)]) [0] rfl) (fun U hU hW => zz_go hZ hS (va_free (wc := wA a b k u_1) hD hS hA [0, 1] rfl) hU hW)⟩ rfl rfl hl.1 rfl (lv_room (Nat.le_of_ble_eq_true rfl)) d_A_translate_63 ⟨Nat.le_of_ble_eq_true rfl, Nat.le_of_ble_eq_true rfl⟩) hP hD hS hA [0, 1] [] [0, 1] rfl rfl (by decide) (by decide) (by decide) (fun _ => rfl) (fun r_4 u_4 H locs hw hP hD hS => ?_)
      obtain ⟨er_4, eu_4⟩ := hw
      have ok_4 : okA u_4 := by rw [eu_4]; exact (ok_bitsOfName hI.1)
      refine lv_istore_n (lv' := [(1, .int r_4), (0, .ref a)]) hx hb d_A_translate_66 rfl hl (by decide) rfl (fun ls hl => ?_)
      refine lv_iload_n hx hb d_A_translate_67 rfl (lv_at hl 0 rfl) ?_
      refine lv_if_ne (tgt := 79) hx hb d_A_translate_68 (by decide) (fun c_5 => ?_) (fun c_5 => ?_)
      · refine lv_iload_n hx hb d_A_translate_79 rfl (lv_at hl 0 rfl) ?_
        refine lv_aload_n hx hb d_A_translate_80 rfl (lv_at hl 1 rfl) ?_
        refine zc_i (w2 := fun u9 => wA a b k u9) (va_runV (As := []) (rest := [.int r_4]) ⟨hx, hb, hml, hown, ht⟩ (mt_A_operands l D a b k H.size u_4 ok_4) (cwV 0 ht (zgV zw_400 zw_402 zs_9 zw_3 zw_403) rfl rfl rfl kd_A_operands ⟨Nat.le_of_ble_eq_true rfl, Nat.le_of_ble_eq_true rfl⟩) ⟨zw_blind zw_tt, va_recv (hK.sub (tys' := [(k, .char)]) [0] rfl) (hP.sub (ws' := wA a b k u_4) [0, 1] rfl) (ci := 0) (q0 := 0) rfl rfl, zw_go (hP.sub (ws' := wA a b k u_4) [0, 1] rfl) (hD.sub (ws' := wA a b k u_4) [0, 1] (by decide) rfl) (hK.sub (tys' := [(k, .char)]) [0] rfl) (fun _ _ _ => trivial)⟩ rfl rfl hl.1 rfl (lv_room (Nat.le_of_ble_eq_true rfl)) d_A_translate_81 ⟨Nat.le_of_ble_eq_true rfl, Nat.le_of_ble_eq_true rfl⟩) hP hD hS hA [0, 1] [] [0, 1] rfl rfl (by decide) (by decide) (by decide) (fun _ => rfl) (fun r_6 u_6 H locs hw hP hD hS => ?_)
        obtain ⟨er_6, eu_6⟩ := hw
        have ok_6 : okA u_6 := by rw [eu_6]; exact (ok_operands ok_4)
        refine lv_ior hx hb d_A_translate_84 ?_
        refine lv_istore_n (lv' := [(1, .int (r_4 ||| r_6)), (0, .ref a)]) hx hb d_A_translate_85 rfl hl (by decide) rfl (fun ls hl => ?_)
        refine lv_aload_n hx hb d_A_translate_86 rfl (lv_at hl 1 rfl) ?_
        refine zc_i (w2 := fun _ => wA a b k u_6) (va_runV (As := []) (rest := []) ⟨hx, hb, hml, hown, ht⟩ (mt_A_isGood l D a b k H.size u_6) (cwV 0 ht (zgV zw_408 zw_410 zs_11 zw_3 zw_411) rfl rfl rfl kd_A_isGood ⟨Nat.le_of_ble_eq_true rfl, Nat.le_of_ble_eq_true rfl⟩) ⟨zw_blind zw_tt, va_recv (hK.sub (tys' := [(k, .char)]) [0] rfl) (hP.sub (ws' := wA a b k u_6) [0, 1] rfl) (ci := 0) (q0 := 0) rfl rfl, zw_go (hP.sub (ws' := wA a b k u_6) [0, 1] rfl) (hD.sub (ws' := wA a b k u_6) [0, 1] (by decide) rfl) (hK.sub (tys' := [(k, .char)]) [0] rfl) (fun _ _ _ => trivial)⟩ rfl rfl hl.1 rfl (lv_room (Nat.le_of_ble_eq_true rfl)) d_A_translate_87 ⟨Nat.le_of_ble_eq_true rfl, Nat.le_of_ble_eq_true rfl⟩) hP hD hS hA [0, 1] [] [0, 1] rfl rfl (by decide) (by decide) (by decide) (fun _ => rfl) (fun r_7 _ H locs hw hP hD hS => ?_)
        have er_7 := hw
        refine lv_if_eq (tgt := 112) hx hb d_A_translate_90 (by decide) (fun c_8 => ?_) (fun c_8 => ?_)
        · refine lv_aload_n hx hb d_A_translate_112 rfl (lv_at hl 1 rfl) ?_
          refine lv_iconst (v := (0 : Int32)) hx hb d_A_translate_113 (by decide) ?_
          refine va_put (D := D) (ci := 0) (v := .int (0 : Int32)) (ty := .int) (C := "WindowMachine$Assembler") (T := T_A) (N := 5) hx hb ht zi_A ty_A tyok_A nm_A hown hK hP hD hS 0 rfl rfl 1 (by decide) (ht _ zw_46) (fun _ h9 => h9) rfl (by decide +kernel) rfl rfl (Nat.le_of_ble_eq_true rfl) d_A_translate_114 (fun H locs hP hD hS => ?_)
          have hP : va_P D vwCl (wA a b k (upd u_6.1 0 (0 : Int32), u_6.2)) H := hP
          have hD : va_D A (wA a b k (upd u_6.1 0 (0 : Int32), u_6.2)) := hD
          refine lv_iload_n hx hb d_A_translate_117 rfl (lv_at hl 0 rfl) ?_
          exact zl_i (u := (upd u_6.1 0 (0 : Int32), u_6.2)) hx hb hr hlocks hS hP hD (⟨by rw [hF_2]; simp only [fl_A_translate_10, ← er_4, ← eu_4, ← er_6, ← eu_6, ← er_7, if_pos c_3, if_neg c_5, if_pos c_8], by rw [hF_2]; simp only [fl_A_translate_10, ← er_4, ← eu_4, ← er_6, ← eu_6, ← er_7, if_pos c_3, if_neg c_5, if_pos c_8]⟩) d_A_translate_118
        refine lv_aload_n hx hb d_A_translate_93 rfl (lv_at hl 1 rfl) ?_
        refine va_get (D := D) (ci := 0) (v := .int (u_6.1 1)) (C := "WindowMachine$Assembler") (T := T_A) (N := 5) hx hb ht zi_A hown hK hP 0 rfl rfl 2 (by decide) (ht _ zw_47) (fun _ h9 => h9) rfl d_A_translate_94 ?_
        refine lv_aload_n hx hb d_A_translate_97 rfl (lv_at hl 1 rfl) ?_
        refine va_get (D := D) (ci := 0) (v := .int (u_6.1 0)) (C := "WindowMachine$Assembler") (T := T_A) (N := 5) hx hb ht zi_A hown hK hP 0 rfl rfl 1 (by decide) (ht _ zw_46) (fun _ h9 => h9) rfl d_A_translate_98 ?_
        refine lv_icmp_ge (tgt := 112) hx hb d_A_translate_101 (by decide) (fun c_9 => ?_) (fun c_9 => ?_)
        · refine lv_aload_n hx hb d_A_translate_112 rfl (lv_at hl 1 rfl) ?_
          refine lv_iconst (v := (0 : Int32)) hx hb d_A_translate_113 (by decide) ?_
          refine va_put (D := D) (ci := 0) (v := .int (0 : Int32)) (ty := .int) (C := "WindowMachine$Assembler") (T := T_A) (N := 5) hx hb ht zi_A ty_A tyok_A nm_A hown hK hP hD hS 0 rfl rfl 1 (by decide) (ht _ zw_46) (fun _ h9 => h9) rfl (by decide +kernel) rfl rfl (Nat.le_of_ble_eq_true rfl) d_A_translate_114 (fun H locs hP hD hS => ?_)
          have hP : va_P D vwCl (wA a b k (upd u_6.1 0 (0 : Int32), u_6.2)) H := hP
          have hD : va_D A (wA a b k (upd u_6.1 0 (0 : Int32), u_6.2)) := hD
          refine lv_iload_n hx hb d_A_translate_117 rfl (lv_at hl 0 rfl) ?_
          exact zl_i (u := (upd u_6.1 0 (0 : Int32), u_6.2)) hx hb hr hlocks hS hP hD (⟨by rw [hF_2]; simp only [fl_A_translate_10, ← er_4, ← eu_4, ← er_6, ← eu_6, ← er_7, if_pos c_3, if_neg c_5, if_neg c_8, if_pos c_9], by rw [hF_2]; simp only [fl_A_translate_10, ← er_4, ← eu_4, ← er_6, ← eu_6, ← er_7, if_pos c_3, if_neg c_5, if_neg c_8, if_pos c_9]⟩) d_A_translate_118
        refine lv_aload_n hx hb d_A_translate_104 rfl (lv_at hl 1 rfl) ?_
        refine lv_aload_n hx hb d_A_translate_105 rfl (lv_at hl 1 rfl) ?_
        refine va_get (D := D) (ci := 0) (v := .int (u_6.1 1)) (C := "WindowMachine$Assembler") (T := T_A) (N := 5) hx hb ht zi_A hown hK hP 0 rfl rfl 2 (by decide) (ht _ zw_47) (fun _ h9 => h9) rfl d_A_translate_106 ?_
        refine va_put (D := D) (ci := 0) (v := .int (u_6.1 1)) (ty := .int) (C := "WindowMachine$Assembler") (T := T_A) (N := 5) hx hb ht zi_A ty_A tyok_A nm_A hown hK hP hD hS 0 rfl rfl 3 (by decide) (ht _ zw_48) (fun _ h9 => h9) rfl (by decide +kernel) rfl rfl (Nat.le_of_ble_eq_true rfl) d_A_translate_109 (fun H locs hP hD hS => ?_)
        have hP : va_P D vwCl (wA a b k (upd u_6.1 2 (u_6.1 1), u_6.2)) H := hP
        have hD : va_D A (wA a b k (upd u_6.1 2 (u_6.1 1), u_6.2)) := hD
        refine lv_aload_n hx hb d_A_translate_112 rfl (lv_at hl 1 rfl) ?_
        refine lv_iconst (v := (0 : Int32)) hx hb d_A_translate_113 (by decide) ?_
        refine va_put (D := D) (ci := 0) (v := .int (0 : Int32)) (ty := .int) (C := "WindowMachine$Assembler") (T := T_A) (N := 5) hx hb ht zi_A ty_A tyok_A nm_A hown hK hP hD hS 0 rfl rfl 1 (by decide) (ht _ zw_46) (fun _ h9 => h9) rfl (by decide +kernel) rfl rfl (Nat.le_of_ble_eq_true rfl) d_A_translate_114 (fun H locs hP hD hS => ?_)
        have hP : va_P D vwCl (wA a b k (upd (upd u_6.1 2 (u_6.1 1)) 0 (0 : Int32), u_6.2)) H := hP
        have hD : va_D A (wA a b k (upd (upd u_6.1 2 (u_6.1 1)) 0 (0 : Int32), u_6.2)) := hD
        refine lv_iload_n hx hb d_A_translate_117 rfl (lv_at hl 0 rfl) ?_
        exact zl_i (u := (upd (upd u_6.1 2 (u_6.1 1)) 0 (0 : Int32), u_6.2)) hx hb hr hlocks hS hP hD (⟨by rw [hF_2]; simp only [fl_A_translate_10, ← er_4, ← eu_4, ← er_6, ← eu_6, ← er_7, if_pos c_3, if_neg c_5, if_neg c_8, if_neg c_9], by rw [hF_2]; simp only [fl_A_translate_10, ← er_4, ← eu_4, ← er_6, ← eu_6, ← er_7, if_pos c_3, if_neg c_5, if_neg c_8, if_neg c_9]⟩) d_A_translate_118
      refine lv_aload_n hx hb d_A_translate_71 rfl (lv_at hl 1 rfl) ?_
      refine lv_iconst (v := (0 : Int32)) hx hb d_A_translate_72 (by decide) ?_
      refine va_put (D := D) (ci := 0) (v := .int (0 : Int32)) (ty := .int) (C := "WindowMachine$Assembler") (T := T_A) (N := 5) hx hb ht zi_A ty_A tyok_A nm_A hown hK hP hD hS 0 rfl rfl 3 (by decide) (ht _ zw_48) (fun _ h9 => h9) rfl (by decide +kernel) rfl rfl (Nat.le_of_ble_eq_true rfl) d_A_translate_73 (fun H locs hP hD hS => ?_)
      have hP : va_P D vwCl (wA a b k (upd u_4.1 2 (0 : Int32), u_4.2)) H := hP
      have hD : va_D A (wA a b k (upd u_4.1 2 (0 : Int32), u_4.2)) := hD
      refine lv_goto (tgt := 86) hx hb d_A_translate_76 (by decide) ?_
      refine lv_aload_n hx hb d_A_translate_86 rfl (lv_at hl 1 rfl) ?_
      refine zc_i (w2 := fun _ => wA a b k (upd u_4.1 2 (0 : Int32), u_4.2)) (va_runV (As := []) (rest := []) ⟨hx, hb, hml, hown, ht⟩ (mt_A_isGood l D a b k H.size (upd u_4.1 2 (0 : Int32), u_4.2)) (cwV 0 ht (zgV zw_408 zw_410 zs_11 zw_3 zw_411) rfl rfl rfl kd_A_isGood ⟨Nat.le_of_ble_eq_true rfl, Nat.le_of_ble_eq_true rfl⟩) ⟨zw_blind zw_tt, va_recv (hK.sub (tys' := [(k, .char)]) [0] rfl) (hP.sub (ws' := wA a b k (upd u_4.1 2 (0 : Int32), u_4.2)) [0, 1] rfl) (ci := 0) (q0 := 0) rfl rfl, zw_go (hP.sub (ws' := wA a b k (upd u_4.1 2 (0 : Int32), u_4.2)) [0, 1] rfl) (hD.sub (ws' := wA a b k (upd u_4.1 2 (0 : Int32), u_4.2)) [0, 1] (by decide) rfl) (hK.sub (tys' := [(k, .char)]) [0] rfl) (fun _ _ _ => trivial)⟩ rfl rfl hl.1 rfl (lv_room (Nat.le_of_ble_eq_true rfl)) d_A_translate_87 ⟨Nat.le_of_ble_eq_true rfl, Nat.le_of_ble_eq_true rfl⟩) hP hD hS hA [0, 1] [] [0, 1] rfl rfl (by decide) (by decide) (by decide) (fun _ => rfl) (fun r_10 _ H locs hw hP hD hS => ?_)
      have er_10 := hw
      refine lv_if_eq (tgt := 112) hx hb d_A_translate_90 (by decide) (fun c_11 => ?_) (fun c_11 => ?_)
      · refine lv_aload_n hx hb d_A_translate_112 rfl (lv_at hl 1 rfl) ?_
        refine lv_iconst (v := (0 : Int32)) hx hb d_A_translate_113 (by decide) ?_
        refine va_put (D := D) (ci := 0) (v := .int (0 : Int32)) (ty := .int) (C := "WindowMachine$Assembler") (T := T_A) (N := 5) hx hb ht zi_A ty_A tyok_A nm_A hown hK hP hD hS 0 rfl rfl 1 (by decide) (ht _ zw_46) (fun _ h9 => h9) rfl (by decide +kernel) rfl rfl (Nat.le_of_ble_eq_true rfl) d_A_translate_114 (fun H locs hP hD hS => ?_)
        have hP : va_P D vwCl (wA a b k (upd (upd u_4.1 2 (0 : Int32)) 0 (0 : Int32), u_4.2)) H := hP
        have hD : va_D A (wA a b k (upd (upd u_4.1 2 (0 : Int32)) 0 (0 : Int32), u_4.2)) := hD
        refine lv_iload_n hx hb d_A_translate_117 rfl (lv_at hl 0 rfl) ?_
        exact zl_i (u := (upd (upd u_4.1 2 (0 : Int32)) 0 (0 : Int32), u_4.2)) hx hb hr hlocks hS hP hD (⟨by rw [hF_2]; simp only [fl_A_translate_10, ← er_4, ← eu_4, ← er_10, if_pos c_3, if_pos c_5, if_pos c_11], by rw [hF_2]; simp only [fl_A_translate_10, ← er_4, ← eu_4, ← er_10, if_pos c_3, if_pos c_5, if_pos c_11]⟩) d_A_translate_118
      refine lv_aload_n hx hb d_A_translate_93 rfl (lv_at hl 1 rfl) ?_
      refine va_get (D := D) (ci := 0) (v := .int (u_4.1 1)) (C := "WindowMachine$Assembler") (T := T_A) (N := 5) hx hb ht zi_A hown hK hP 0 rfl rfl 2 (by decide) (ht _ zw_47) (fun _ h9 => h9) rfl d_A_translate_94 ?_
      refine lv_aload_n hx hb d_A_translate_97 rfl (lv_at hl 1 rfl) ?_
      refine va_get (D := D) (ci := 0) (v := .int (u_4.1 0)) (C := "WindowMachine$Assembler") (T := T_A) (N := 5) hx hb ht zi_A hown hK hP 0 rfl rfl 1 (by decide) (ht _ zw_46) (fun _ h9 => h9) rfl d_A_translate_98 ?_
      refine lv_icmp_ge (tgt := 112) hx hb d_A_translate_101 (by decide) (fun c_12 => ?_) (fun c_12 => ?_)
      · refine lv_aload_n hx hb d_A_translate_112 rfl (lv_at hl 1 rfl) ?_
        refine lv_iconst (v := (0 : Int32)) hx hb d_A_translate_113 (by decide) ?_
        refine va_put (D := D) (ci := 0) (v := .int (0 : Int32)) (ty := .int) (C := "WindowMachine$Assembler") (T := T_A) (N := 5) hx hb ht zi_A ty_A tyok_A nm_A hown hK hP hD hS 0 rfl rfl 1 (by decide) (ht _ zw_46) (fun _ h9 => h9) rfl (by decide +kernel) rfl rfl (Nat.le_of_ble_eq_true rfl) d_A_translate_114 (fun H locs hP hD hS => ?_)
        have hP : va_P D vwCl (wA a b k (upd (upd u_4.1 2 (0 : Int32)) 0 (0 : Int32), u_4.2)) H := hP
        have hD : va_D A (wA a b k (upd (upd u_4.1 2 (0 : Int32)) 0 (0 : Int32), u_4.2)) := hD
        refine lv_iload_n hx hb d_A_translate_117 rfl (lv_at hl 0 rfl) ?_
        exact zl_i (u := (upd (upd u_4.1 2 (0 : Int32)) 0 (0 : Int32), u_4.2)) hx hb hr hlocks hS hP hD (⟨by rw [hF_2]; simp only [fl_A_translate_10, ← er_4, ← eu_4, ← er_10, if_pos c_3, if_pos c_5, if_neg c_11, if_pos c_12], by rw [hF_2]; simp only [fl_A_translate_10, ← er_4, ← eu_4, ← er_10, if_pos c_3, if_pos c_5, if_neg c_11, if_pos c_12]⟩) d_A_translate_118
      refine lv_aload_n hx hb d_A_translate_104 rfl (lv_at hl 1 rfl) ?_
      refine lv_aload_n hx hb d_A_translate_105 rfl (lv_at hl 1 rfl) ?_
      refine va_get (D := D) (ci := 0) (v := .int (u_4.1 1)) (C := "WindowMachine$Assembler") (T := T_A) (N := 5) hx hb ht zi_A hown hK hP 0 rfl rfl 2 (by decide) (ht _ zw_47) (fun _ h9 => h9) rfl d_A_translate_106 ?_
      refine va_put (D := D) (ci := 0) (v := .int (u_4.1 1)) (ty := .int) (C := "WindowMachine$Assembler") (T := T_A) (N := 5) hx hb ht zi_A ty_A tyok_A nm_A hown hK hP hD hS 0 rfl rfl 3 (by decide) (ht _ zw_48) (fun _ h9 => h9) rfl (by decide +kernel) rfl rfl (Nat.le_of_ble_eq_true rfl) d_A_translate_109 (fun H locs hP hD hS => ?_)
      have hP : va_P D vwCl (wA a b k (upd (upd u_4.1 2 (0 : Int32)) 2 (u_4.1 1), u_4.2)) H := hP
      have hD : va_D A (wA a b k (upd (upd u_4.1 2 (0 : Int32)) 2 (u_4.1 1), u_4.2)) := hD
      refine lv_aload_n hx hb d_A_translate_112 rfl (lv_at hl 1 rfl) ?_
      refine lv_iconst (v := (0 : Int32)) hx hb d_A_translate_113 (by decide) ?_
      refine va_put (D := D) (ci := 0) (v := .int (0 : Int32)) (ty := .int) (C := "WindowMachine$Assembler") (T := T_A) (N := 5) hx hb ht zi_A ty_A tyok_A nm_A hown hK hP hD hS 0 rfl rfl 1 (by decide) (ht _ zw_46) (fun _ h9 => h9) rfl (by decide +kernel) rfl rfl (Nat.le_of_ble_eq_true rfl) d_A_translate_114 (fun H locs hP hD hS => ?_)
      have hP : va_P D vwCl (wA a b k (upd (upd (upd u_4.1 2 (0 : Int32)) 2 (u_4.1 1)) 0 (0 : Int32), u_4.2)) H := hP
      have hD : va_D A (wA a b k (upd (upd (upd u_4.1 2 (0 : Int32)) 2 (u_4.1 1)) 0 (0 : Int32), u_4.2)) := hD
      refine lv_iload_n hx hb d_A_translate_117 rfl (lv_at hl 0 rfl) ?_
      exact zl_i (u := (upd (upd (upd u_4.1 2 (0 : Int32)) 2 (u_4.1 1)) 0 (0 : Int32), u_4.2)) hx hb hr hlocks hS hP hD (⟨by rw [hF_2]; simp only [fl_A_translate_10, ← er_4, ← eu_4, ← er_10, if_pos c_3, if_pos c_5, if_neg c_11, if_neg c_12], by rw [hF_2]; simp only [fl_A_translate_10, ← er_4, ← eu_4, ← er_10, if_pos c_3, if_pos c_5, if_neg c_11, if_neg c_12]⟩) d_A_translate_118
    refine lv_aload_n hx hb d_A_translate_21 rfl (lv_at hl 0 rfl) ?_
    refine va_get (D := D) (ci := 0) (v := .ref b) (C := "WindowMachine$Assembler") (T := T_A) (N := 5) hx hb ht zi_A hown hK hP 0 rfl rfl 0 (by decide) (ht _ zw_44) (fun _ h9 => h9) rfl d_A_translate_22 ?_
    refine lv_aload_n hx hb d_A_translate_25 rfl (lv_at hl 0 rfl) ?_
    refine va_get (D := D) (ci := 0) (v := .int (u_1.1 1)) (C := "WindowMachine$Assembler") (T := T_A) (N := 5) hx hb ht zi_A hown hK hP 0 rfl rfl 2 (by decide) (ht _ zw_47) (fun _ h9 => h9) rfl d_A_translate_26 ?_
    refine va_cald hx hb hK hP 1 0 rfl rfl (at_in hI.1 c_3) d_A_translate_29 ?_
    refine lv_bipush (v := (97 : Int32)) hx hb d_A_translate_30 (by decide) ?_
    refine lv_icmp_lt (tgt := 62) hx hb d_A_translate_32 (by decide) (fun c_13 => ?_) (fun c_13 => ?_)
    · refine lv_aload_n hx hb d_A_translate_62 rfl (lv_at hl 0 rfl) ?_
      refine zc_i (w2 := fun u9 => wA a b k u9) (va_runV (As := []) (rest := []) ⟨hx, hb, hml, hown, ht⟩ (mt_A_bitsOfName l D za zk zv a b k H.size u_1 hI.1) (cwV 0 ht (zgV zw_306 zw_308 zs_2 zw_3 zw_309) rfl rfl rfl kd_A_bitsOfName ⟨Nat.le_of_ble_eq_true rfl, Nat.le_of_ble_eq_true rfl⟩) ⟨zw_blind zz_bl, va_recv (hK.sub (tys' := [(k, .char)]) [0] rfl) (hP.sub (ws' := wA a b k u_1) [0, 1] rfl) (ci := 0) (q0 := 0) rfl rfl, zw_go (hP.sub (ws' := wA a b k u_1) [0, 1] rfl) (hD.sub (ws' := wA a b k u_1) [0, 1] (by decide) rfl) (hK.sub (tys' := [(k, .char)]) [0] rfl) (fun U hU hW => zz_go hZ hS (va_free (wc := wA a b k u_1) hD hS hA [0, 1] rfl) hU hW)⟩ rfl rfl hl.1 rfl (lv_room (Nat.le_of_ble_eq_true rfl)) d_A_translate_63 ⟨Nat.le_of_ble_eq_true rfl, Nat.le_of_ble_eq_true rfl⟩) hP hD hS hA [0, 1] [] [0, 1] rfl rfl (by decide) (by decide) (by decide) (fun _ => rfl) (fun r_14 u_14 H locs hw hP hD hS => ?_)
      obtain ⟨er_14, eu_14⟩ := hw
      have ok_14 : okA u_14 := by rw [eu_14]; exact (ok_bitsOfName hI.1)
      refine lv_istore_n (lv' := [(1, .int r_14), (0, .ref a)]) hx hb d_A_translate_66 rfl hl (by decide) rfl (fun ls hl => ?_)
      refine lv_iload_n hx hb d_A_translate_67 rfl (lv_at hl 0 rfl) ?_
      refine lv_if_ne (tgt := 79) hx hb d_A_translate_68 (by decide) (fun c_15 => ?_) (fun c_15 => ?_)
      · refine lv_iload_n hx hb d_A_translate_79 rfl (lv_at hl 0 rfl) ?_
        refine lv_aload_n hx hb d_A_translate_80 rfl (lv_at hl 1 rfl) ?_
        refine zc_i (w2 := fun u9 => wA a b k u9) (va_runV (As := []) (rest := [.int r_14]) ⟨hx, hb, hml, hown, ht⟩ (mt_A_operands l D a b k H.size u_14 ok_14) (cwV 0 ht (zgV zw_400 zw_402 zs_9 zw_3 zw_403) rfl rfl rfl kd_A_operands ⟨Nat.le_of_ble_eq_true rfl, Nat.le_of_ble_eq_true rfl⟩) ⟨zw_blind zw_tt, va_recv (hK.sub (tys' := [(k, .char)]) [0] rfl) (hP.sub (ws' := wA a b k u_14) [0, 1] rfl) (ci := 0) (q0 := 0) rfl rfl, zw_go (hP.sub (ws' := wA a b k u_14) [0, 1] rfl) (hD.sub (ws' := wA a b k u_14) [0, 1] (by decide) rfl) (hK.sub (tys' := [(k, .char)]) [0] rfl) (fun _ _ _ => trivial)⟩ rfl rfl hl.1 rfl (lv_room (Nat.le_of_ble_eq_true rfl)) d_A_translate_81 ⟨Nat.le_of_ble_eq_true rfl, Nat.le_of_ble_eq_true rfl⟩) hP hD hS hA [0, 1] [] [0, 1] rfl rfl (by decide) (by decide) (by decide) (fun _ => rfl) (fun r_16 u_16 H locs hw hP hD hS => ?_)
        obtain ⟨er_16, eu_16⟩ := hw
        have ok_16 : okA u_16 := by rw [eu_16]; exact (ok_operands ok_14)
        refine lv_ior hx hb d_A_translate_84 ?_
        refine lv_istore_n (lv' := [(1, .int (r_14 ||| r_16)), (0, .ref a)]) hx hb d_A_translate_85 rfl hl (by decide) rfl (fun ls hl => ?_)
        refine lv_aload_n hx hb d_A_translate_86 rfl (lv_at hl 1 rfl) ?_
        refine zc_i (w2 := fun _ => wA a b k u_16) (va_runV (As := []) (rest := []) ⟨hx, hb, hml, hown, ht⟩ (mt_A_isGood l D a b k H.size u_16) (cwV 0 ht (zgV zw_408 zw_410 zs_11 zw_3 zw_411) rfl rfl rfl kd_A_isGood ⟨Nat.le_of_ble_eq_true rfl, Nat.le_of_ble_eq_true rfl⟩) ⟨zw_blind zw_tt, va_recv (hK.sub (tys' := [(k, .char)]) [0] rfl) (hP.sub (ws' := wA a b k u_16) [0, 1] rfl) (ci := 0) (q0 := 0) rfl rfl, zw_go (hP.sub (ws' := wA a b k u_16) [0, 1] rfl) (hD.sub (ws' := wA a b k u_16) [0, 1] (by decide) rfl) (hK.sub (tys' := [(k, .char)]) [0] rfl) (fun _ _ _ => trivial)⟩ rfl rfl hl.1 rfl (lv_room (Nat.le_of_ble_eq_true rfl)) d_A_translate_87 ⟨Nat.le_of_ble_eq_true rfl, Nat.le_of_ble_eq_true rfl⟩) hP hD hS hA [0, 1] [] [0, 1] rfl rfl (by decide) (by decide) (by decide) (fun _ => rfl) (fun r_17 _ H locs hw hP hD hS => ?_)
        have er_17 := hw
        refine lv_if_eq (tgt := 112) hx hb d_A_translate_90 (by decide) (fun c_18 => ?_) (fun c_18 => ?_)
        · refine lv_aload_n hx hb d_A_translate_112 rfl (lv_at hl 1 rfl) ?_
          refine lv_iconst (v := (0 : Int32)) hx hb d_A_translate_113 (by decide) ?_
          refine va_put (D := D) (ci := 0) (v := .int (0 : Int32)) (ty := .int) (C := "WindowMachine$Assembler") (T := T_A) (N := 5) hx hb ht zi_A ty_A tyok_A nm_A hown hK hP hD hS 0 rfl rfl 1 (by decide) (ht _ zw_46) (fun _ h9 => h9) rfl (by decide +kernel) rfl rfl (Nat.le_of_ble_eq_true rfl) d_A_translate_114 (fun H locs hP hD hS => ?_)
          have hP : va_P D vwCl (wA a b k (upd u_16.1 0 (0 : Int32), u_16.2)) H := hP
          have hD : va_D A (wA a b k (upd u_16.1 0 (0 : Int32), u_16.2)) := hD
          refine lv_iload_n hx hb d_A_translate_117 rfl (lv_at hl 0 rfl) ?_
          exact zl_i (u := (upd u_16.1 0 (0 : Int32), u_16.2)) hx hb hr hlocks hS hP hD (⟨by rw [hF_2]; simp only [fl_A_translate_10, ← er_14, ← eu_14, ← er_16, ← eu_16, ← er_17, if_neg c_3, if_pos c_13, if_neg c_15, if_pos c_18], by rw [hF_2]; simp only [fl_A_translate_10, ← er_14, ← eu_14, ← er_16, ← eu_16, ← er_17, if_neg c_3, if_pos c_13, if_neg c_15, if_pos c_18]⟩) d_A_translate_118
        refine lv_aload_n hx hb d_A_translate_93 rfl (lv_at hl 1 rfl) ?_
        refine va_get (D := D) (ci := 0) (v := .int (u_16.1 1)) (C := "WindowMachine$Assembler") (T := T_A) (N := 5) hx hb ht zi_A hown hK hP 0 rfl rfl 2 (by decide) (ht _ zw_47) (fun _ h9 => h9) rfl d_A_translate_94 ?_
        refine lv_aload_n hx hb d_A_translate_97 rfl (lv_at hl 1 rfl) ?_
        refine va_get (D := D) (ci := 0) (v := .int (u_16.1 0)) (C := "WindowMachine$Assembler") (T := T_A) (N := 5) hx hb ht zi_A hown hK hP 0 rfl rfl 1 (by decide) (ht _ zw_46) (fun _ h9 => h9) rfl d_A_translate_98 ?_
        refine lv_icmp_ge (tgt := 112) hx hb d_A_translate_101 (by decide) (fun c_19 => ?_) (fun c_19 => ?_)
        · refine lv_aload_n hx hb d_A_translate_112 rfl (lv_at hl 1 rfl) ?_
          refine lv_iconst (v := (0 : Int32)) hx hb d_A_translate_113 (by decide) ?_
          refine va_put (D := D) (ci := 0) (v := .int (0 : Int32)) (ty := .int) (C := "WindowMachine$Assembler") (T := T_A) (N := 5) hx hb ht zi_A ty_A tyok_A nm_A hown hK hP hD hS 0 rfl rfl 1 (by decide) (ht _ zw_46) (fun _ h9 => h9) rfl (by decide +kernel) rfl rfl (Nat.le_of_ble_eq_true rfl) d_A_translate_114 (fun H locs hP hD hS => ?_)
          have hP : va_P D vwCl (wA a b k (upd u_16.1 0 (0 : Int32), u_16.2)) H := hP
          have hD : va_D A (wA a b k (upd u_16.1 0 (0 : Int32), u_16.2)) := hD
          refine lv_iload_n hx hb d_A_translate_117 rfl (lv_at hl 0 rfl) ?_
          exact zl_i (u := (upd u_16.1 0 (0 : Int32), u_16.2)) hx hb hr hlocks hS hP hD (⟨by rw [hF_2]; simp only [fl_A_translate_10, ← er_14, ← eu_14, ← er_16, ← eu_16, ← er_17, if_neg c_3, if_pos c_13, if_neg c_15, if_neg c_18, if_pos c_19], by rw [hF_2]; simp only [fl_A_translate_10, ← er_14, ← eu_14, ← er_16, ← eu_16, ← er_17, if_neg c_3, if_pos c_13, if_neg c_15, if_neg c_18, if_pos c_19]⟩) d_A_translate_118
        refine lv_aload_n hx hb d_A_translate_104 rfl (lv_at hl 1 rfl) ?_
        refine lv_aload_n hx hb d_A_translate_105 rfl (lv_at hl 1 rfl) ?_
        refine va_get (D := D) (ci := 0) (v := .int (u_16.1 1)) (C := "WindowMachine$Assembler") (T := T_A) (N := 5) hx hb ht zi_A hown hK hP 0 rfl rfl 2 (by decide) (ht _ zw_47) (fun _ h9 => h9) rfl d_A_translate_106 ?_
        refine va_put (D := D) (ci := 0) (v := .int (u_16.1 1)) (ty := .int) (C := "WindowMachine$Assembler") (T := T_A) (N := 5) hx hb ht zi_A ty_A tyok_A nm_A hown hK hP hD hS 0 rfl rfl 3 (by decide) (ht _ zw_48) (fun _ h9 => h9) rfl (by decide +kernel) rfl rfl (Nat.le_of_ble_eq_true rfl) d_A_translate_109 (fun H locs hP hD hS => ?_)
        have hP : va_P D vwCl (wA a b k (upd u_16.1 2 (u_16.1 1), u_16.2)) H := hP
        have hD : va_D A (wA a b k (upd u_16.1 2 (u_16.1 1), u_16.2)) := hD
        refine lv_aload_n hx hb d_A_translate_112 rfl (lv_at hl 1 rfl) ?_
        refine lv_iconst (v := (0 : Int32)) hx hb d_A_translate_113 (by decide) ?_
        refine va_put (D := D) (ci := 0) (v := .int (0 : Int32)) (ty := .int) (C := "WindowMachine$Assembler") (T := T_A) (N := 5) hx hb ht zi_A ty_A tyok_A nm_A hown hK hP hD hS 0 rfl rfl 1 (by decide) (ht _ zw_46) (fun _ h9 => h9) rfl (by decide +kernel) rfl rfl (Nat.le_of_ble_eq_true rfl) d_A_translate_114 (fun H locs hP hD hS => ?_)
        have hP : va_P D vwCl (wA a b k (upd (upd u_16.1 2 (u_16.1 1)) 0 (0 : Int32), u_16.2)) H := hP
        have hD : va_D A (wA a b k (upd (upd u_16.1 2 (u_16.1 1)) 0 (0 : Int32), u_16.2)) := hD
        refine lv_iload_n hx hb d_A_translate_117 rfl (lv_at hl 0 rfl) ?_
        exact zl_i (u := (upd (upd u_16.1 2 (u_16.1 1)) 0 (0 : Int32), u_16.2)) hx hb hr hlocks hS hP hD (⟨by rw [hF_2]; simp only [fl_A_translate_10, ← er_14, ← eu_14, ← er_16, ← eu_16, ← er_17, if_neg c_3, if_pos c_13, if_neg c_15, if_neg c_18, if_neg c_19], by rw [hF_2]; simp only [fl_A_translate_10, ← er_14, ← eu_14, ← er_16, ← eu_16, ← er_17, if_neg c_3, if_pos c_13, if_neg c_15, if_neg c_18, if_neg c_19]⟩) d_A_translate_118
      refine lv_aload_n hx hb d_A_translate_71 rfl (lv_at hl 1 rfl) ?_
      refine lv_iconst (v := (0 : Int32)) hx hb d_A_translate_72 (by decide) ?_
      refine va_put (D := D) (ci := 0) (v := .int (0 : Int32)) (ty := .int) (C := "WindowMachine$Assembler") (T := T_A) (N := 5) hx hb ht zi_A ty_A tyok_A nm_A hown hK hP hD hS 0 rfl rfl 3 (by decide) (ht _ zw_48) (fun _ h9 => h9) rfl (by decide +kernel) rfl rfl (Nat.le_of_ble_eq_true rfl) d_A_translate_73 (fun H locs hP hD hS => ?_)
      have hP : va_P D vwCl (wA a b k (upd u_14.1 2 (0 : Int32), u_14.2)) H := hP
      have hD : va_D A (wA a b k (upd u_14.1 2 (0 : Int32), u_14.2)) := hD
      refine lv_goto (tgt := 86) hx hb d_A_translate_76 (by decide) ?_
      refine lv_aload_n hx hb d_A_translate_86 rfl (lv_at hl 1 rfl) ?_
      refine zc_i (w2 := fun _ => wA a b k (upd u_14.1 2 (0 : Int32), u_14.2)) (va_runV (As := []) (rest := []) ⟨hx, hb, hml, hown, ht⟩ (mt_A_isGood l D a b k H.size (upd u_14.1 2 (0 : Int32), u_14.2)) (cwV 0 ht (zgV zw_408 zw_410 zs_11 zw_3 zw_411) rfl rfl rfl kd_A_isGood ⟨Nat.le_of_ble_eq_true rfl, Nat.le_of_ble_eq_true rfl⟩) ⟨zw_blind zw_tt, va_recv (hK.sub (tys' := [(k, .char)]) [0] rfl) (hP.sub (ws' := wA a b k (upd u_14.1 2 (0 : Int32), u_14.2)) [0, 1] rfl) (ci := 0) (q0 := 0) rfl rfl, zw_go (hP.sub (ws' := wA a b k (upd u_14.1 2 (0 : Int32), u_14.2)) [0, 1] rfl) (hD.sub (ws' := wA a b k (upd u_14.1 2 (0 : Int32), u_14.2)) [0, 1] (by decide) rfl) (hK.sub (tys' := [(k, .char)]) [0] rfl) (fun _ _ _ => trivial)⟩ rfl rfl hl.1 rfl (lv_room (Nat.le_of_ble_eq_true rfl)) d_A_translate_87 ⟨Nat.le_of_ble_eq_true rfl, Nat.le_of_ble_eq_true rfl⟩) hP hD hS hA [0, 1] [] [0, 1] rfl rfl (by decide) (by decide) (by decide) (fun _ => rfl) (fun r_20 _ H locs hw hP hD hS => ?_)
      have er_20 := hw
      refine lv_if_eq (tgt := 112) hx hb d_A_translate_90 (by decide) (fun c_21 => ?_) (fun c_21 => ?_)
      · refine lv_aload_n hx hb d_A_translate_112 rfl (lv_at hl 1 rfl) ?_
        refine lv_iconst (v := (0 : Int32)) hx hb d_A_translate_113 (by decide) ?_
        refine va_put (D := D) (ci := 0) (v := .int (0 : Int32)) (ty := .int) (C := "WindowMachine$Assembler") (T := T_A) (N := 5) hx hb ht zi_A ty_A tyok_A nm_A hown hK hP hD hS 0 rfl rfl 1 (by decide) (ht _ zw_46) (fun _ h9 => h9) rfl (by decide +kernel) rfl rfl (Nat.le_of_ble_eq_true rfl) d_A_translate_114 (fun H locs hP hD hS => ?_)
        have hP : va_P D vwCl (wA a b k (upd (upd u_14.1 2 (0 : Int32)) 0 (0 : Int32), u_14.2)) H := hP
        have hD : va_D A (wA a b k (upd (upd u_14.1 2 (0 : Int32)) 0 (0 : Int32), u_14.2)) := hD
        refine lv_iload_n hx hb d_A_translate_117 rfl (lv_at hl 0 rfl) ?_
        exact zl_i (u := (upd (upd u_14.1 2 (0 : Int32)) 0 (0 : Int32), u_14.2)) hx hb hr hlocks hS hP hD (⟨by rw [hF_2]; simp only [fl_A_translate_10, ← er_14, ← eu_14, ← er_20, if_neg c_3, if_pos c_13, if_pos c_15, if_pos c_21], by rw [hF_2]; simp only [fl_A_translate_10, ← er_14, ← eu_14, ← er_20, if_neg c_3, if_pos c_13, if_pos c_15, if_pos c_21]⟩) d_A_translate_118
      refine lv_aload_n hx hb d_A_translate_93 rfl (lv_at hl 1 rfl) ?_
      refine va_get (D := D) (ci := 0) (v := .int (u_14.1 1)) (C := "WindowMachine$Assembler") (T := T_A) (N := 5) hx hb ht zi_A hown hK hP 0 rfl rfl 2 (by decide) (ht _ zw_47) (fun _ h9 => h9) rfl d_A_translate_94 ?_
      refine lv_aload_n hx hb d_A_translate_97 rfl (lv_at hl 1 rfl) ?_
      refine va_get (D := D) (ci := 0) (v := .int (u_14.1 0)) (C := "WindowMachine$Assembler") (T := T_A) (N := 5) hx hb ht zi_A hown hK hP 0 rfl rfl 1 (by decide) (ht _ zw_46) (fun _ h9 => h9) rfl d_A_translate_98 ?_
      refine lv_icmp_ge (tgt := 112) hx hb d_A_translate_101 (by decide) (fun c_22 => ?_) (fun c_22 => ?_)
      · refine lv_aload_n hx hb d_A_translate_112 rfl (lv_at hl 1 rfl) ?_
        refine lv_iconst (v := (0 : Int32)) hx hb d_A_translate_113 (by decide) ?_
        refine va_put (D := D) (ci := 0) (v := .int (0 : Int32)) (ty := .int) (C := "WindowMachine$Assembler") (T := T_A) (N := 5) hx hb ht zi_A ty_A tyok_A nm_A hown hK hP hD hS 0 rfl rfl 1 (by decide) (ht _ zw_46) (fun _ h9 => h9) rfl (by decide +kernel) rfl rfl (Nat.le_of_ble_eq_true rfl) d_A_translate_114 (fun H locs hP hD hS => ?_)
        have hP : va_P D vwCl (wA a b k (upd (upd u_14.1 2 (0 : Int32)) 0 (0 : Int32), u_14.2)) H := hP
        have hD : va_D A (wA a b k (upd (upd u_14.1 2 (0 : Int32)) 0 (0 : Int32), u_14.2)) := hD
        refine lv_iload_n hx hb d_A_translate_117 rfl (lv_at hl 0 rfl) ?_
        exact zl_i (u := (upd (upd u_14.1 2 (0 : Int32)) 0 (0 : Int32), u_14.2)) hx hb hr hlocks hS hP hD (⟨by rw [hF_2]; simp only [fl_A_translate_10, ← er_14, ← eu_14, ← er_20, if_neg c_3, if_pos c_13, if_pos c_15, if_neg c_21, if_pos c_22], by rw [hF_2]; simp only [fl_A_translate_10, ← er_14, ← eu_14, ← er_20, if_neg c_3, if_pos c_13, if_pos c_15, if_neg c_21, if_pos c_22]⟩) d_A_translate_118
      refine lv_aload_n hx hb d_A_translate_104 rfl (lv_at hl 1 rfl) ?_
      refine lv_aload_n hx hb d_A_translate_105 rfl (lv_at hl 1 rfl) ?_
      refine va_get (D := D) (ci := 0) (v := .int (u_14.1 1)) (C := "WindowMachine$Assembler") (T := T_A) (N := 5) hx hb ht zi_A hown hK hP 0 rfl rfl 2 (by decide) (ht _ zw_47) (fun _ h9 => h9) rfl d_A_translate_106 ?_
      refine va_put (D := D) (ci := 0) (v := .int (u_14.1 1)) (ty := .int) (C := "WindowMachine$Assembler") (T := T_A) (N := 5) hx hb ht zi_A ty_A tyok_A nm_A hown hK hP hD hS 0 rfl rfl 3 (by decide) (ht _ zw_48) (fun _ h9 => h9) rfl (by decide +kernel) rfl rfl (Nat.le_of_ble_eq_true rfl) d_A_translate_109 (fun H locs hP hD hS => ?_)
      have hP : va_P D vwCl (wA a b k (upd (upd u_14.1 2 (0 : Int32)) 2 (u_14.1 1), u_14.2)) H := hP
      have hD : va_D A (wA a b k (upd (upd u_14.1 2 (0 : Int32)) 2 (u_14.1 1), u_14.2)) := hD
      refine lv_aload_n hx hb d_A_translate_112 rfl (lv_at hl 1 rfl) ?_
      refine lv_iconst (v := (0 : Int32)) hx hb d_A_translate_113 (by decide) ?_
      refine va_put (D := D) (ci := 0) (v := .int (0 : Int32)) (ty := .int) (C := "WindowMachine$Assembler") (T := T_A) (N := 5) hx hb ht zi_A ty_A tyok_A nm_A hown hK hP hD hS 0 rfl rfl 1 (by decide) (ht _ zw_46) (fun _ h9 => h9) rfl (by decide +kernel) rfl rfl (Nat.le_of_ble_eq_true rfl) d_A_translate_114 (fun H locs hP hD hS => ?_)
      have hP : va_P D vwCl (wA a b k (upd (upd (upd u_14.1 2 (0 : Int32)) 2 (u_14.1 1)) 0 (0 : Int32), u_14.2)) H := hP
      have hD : va_D A (wA a b k (upd (upd (upd u_14.1 2 (0 : Int32)) 2 (u_14.1 1)) 0 (0 : Int32), u_14.2)) := hD
      refine lv_iload_n hx hb d_A_translate_117 rfl (lv_at hl 0 rfl) ?_
      exact zl_i (u := (upd (upd (upd u_14.1 2 (0 : Int32)) 2 (u_14.1 1)) 0 (0 : Int32), u_14.2)) hx hb hr hlocks hS hP hD (⟨by rw [hF_2]; simp only [fl_A_translate_10, ← er_14, ← eu_14, ← er_20, if_neg c_3, if_pos c_13, if_pos c_15, if_neg c_21, if_neg c_22], by rw [hF_2]; simp only [fl_A_translate_10, ← er_14, ← eu_14, ← er_20, if_neg c_3, if_pos c_13, if_pos c_15, if_neg c_21, if_neg c_22]⟩) d_A_translate_118
    refine lv_aload_n hx hb d_A_translate_35 rfl (lv_at hl 0 rfl) ?_
    refine va_get (D := D) (ci := 0) (v := .ref b) (C := "WindowMachine$Assembler") (T := T_A) (N := 5) hx hb ht zi_A hown hK hP 0 rfl rfl 0 (by decide) (ht _ zw_44) (fun _ h9 => h9) rfl d_A_translate_36 ?_
    refine lv_aload_n hx hb d_A_translate_39 rfl (lv_at hl 0 rfl) ?_
    refine va_get (D := D) (ci := 0) (v := .int (u_1.1 1)) (C := "WindowMachine$Assembler") (T := T_A) (N := 5) hx hb ht zi_A hown hK hP 0 rfl rfl 2 (by decide) (ht _ zw_47) (fun _ h9 => h9) rfl d_A_translate_40 ?_
    refine va_cald hx hb hK hP 1 0 rfl rfl (at_in hI.1 c_3) d_A_translate_43 ?_
    refine lv_bipush (v := (122 : Int32)) hx hb d_A_translate_44 (by decide) ?_
    refine lv_icmp_gt (tgt := 62) hx hb d_A_translate_46 (by decide) (fun c_23 => ?_) (fun c_23 => ?_)
    · refine lv_aload_n hx hb d_A_translate_62 rfl (lv_at hl 0 rfl) ?_
      refine zc_i (w2 := fun u9 => wA a b k u9) (va_runV (As := []) (rest := []) ⟨hx, hb, hml, hown, ht⟩ (mt_A_bitsOfName l D za zk zv a b k H.size u_1 hI.1) (cwV 0 ht (zgV zw_306 zw_308 zs_2 zw_3 zw_309) rfl rfl rfl kd_A_bitsOfName ⟨Nat.le_of_ble_eq_true rfl, Nat.le_of_ble_eq_true rfl⟩) ⟨zw_blind zz_bl, va_recv (hK.sub (tys' := [(k, .char)]) [0] rfl) (hP.sub (ws' := wA a b k u_1) [0, 1] rfl) (ci := 0) (q0 := 0) rfl rfl, zw_go (hP.sub (ws' := wA a b k u_1) [0, 1] rfl) (hD.sub (ws' := wA a b k u_1) [0, 1] (by decide) rfl) (hK.sub (tys' := [(k, .char)]) [0] rfl) (fun U hU hW => zz_go hZ hS (va_free (wc := wA a b k u_1) hD hS hA [0, 1] rfl) hU hW)⟩ rfl rfl hl.1 rfl (lv_room (Nat.le_of_ble_eq_true rfl)) d_A_translate_63 ⟨Nat.le_of_ble_eq_true rfl, Nat.le_of_ble_eq_true rfl⟩) hP hD hS hA [0, 1] [] [0, 1] rfl rfl (by decide) (by decide) (by decide) (fun _ => rfl) (fun r_24 u_24 H locs hw hP hD hS => ?_)
      obtain ⟨er_24, eu_24⟩ := hw
      have ok_24 : okA u_24 := by rw [eu_24]; exact (ok_bitsOfName hI.1)
      refine lv_istore_n (lv' := [(1, .int r_24), (0, .ref a)]) hx hb d_A_translate_66 rfl hl (by decide) rfl (fun ls hl => ?_)
      refine lv_iload_n hx hb d_A_translate_67 rfl (lv_at hl 0 rfl) ?_
      refine lv_if_ne (tgt := 79) hx hb d_A_translate_68 (by decide) (fun c_25 => ?_) (fun c_25 => ?_)
      · refine lv_iload_n hx hb d_A_translate_79 rfl (lv_at hl 0 rfl) ?_
        refine lv_aload_n hx hb d_A_translate_80 rfl (lv_at hl 1 rfl) ?_
        refine zc_i (w2 := fun u9 => wA a b k u9) (va_runV (As := []) (rest := [.int r_24]) ⟨hx, hb, hml, hown, ht⟩ (mt_A_operands l D a b k H.size u_24 ok_24) (cwV 0 ht (zgV zw_400 zw_402 zs_9 zw_3 zw_403) rfl rfl rfl kd_A_operands ⟨Nat.le_of_ble_eq_true rfl, Nat.le_of_ble_eq_true rfl⟩) ⟨zw_blind zw_tt, va_recv (hK.sub (tys' := [(k, .char)]) [0] rfl) (hP.sub (ws' := wA a b k u_24) [0, 1] rfl) (ci := 0) (q0 := 0) rfl rfl, zw_go (hP.sub (ws' := wA a b k u_24) [0, 1] rfl) (hD.sub (ws' := wA a b k u_24) [0, 1] (by decide) rfl) (hK.sub (tys' := [(k, .char)]) [0] rfl) (fun _ _ _ => trivial)⟩ rfl rfl hl.1 rfl (lv_room (Nat.le_of_ble_eq_true rfl)) d_A_translate_81 ⟨Nat.le_of_ble_eq_true rfl, Nat.le_of_ble_eq_true rfl⟩) hP hD hS hA [0, 1] [] [0, 1] rfl rfl (by decide) (by decide) (by decide) (fun _ => rfl) (fun r_26 u_26 H locs hw hP hD hS => ?_)
        obtain ⟨er_26, eu_26⟩ := hw
        have ok_26 : okA u_26 := by rw [eu_26]; exact (ok_operands ok_24)
        refine lv_ior hx hb d_A_translate_84 ?_
        refine lv_istore_n (lv' := [(1, .int (r_24 ||| r_26)), (0, .ref a)]) hx hb d_A_translate_85 rfl hl (by decide) rfl (fun ls hl => ?_)
        refine lv_aload_n hx hb d_A_translate_86 rfl (lv_at hl 1 rfl) ?_
        refine zc_i (w2 := fun _ => wA a b k u_26) (va_runV (As := []) (rest := []) ⟨hx, hb, hml, hown, ht⟩ (mt_A_isGood l D a b k H.size u_26) (cwV 0 ht (zgV zw_408 zw_410 zs_11 zw_3 zw_411) rfl rfl rfl kd_A_isGood ⟨Nat.le_of_ble_eq_true rfl, Nat.le_of_ble_eq_true rfl⟩) ⟨zw_blind zw_tt, va_recv (hK.sub (tys' := [(k, .char)]) [0] rfl) (hP.sub (ws' := wA a b k u_26) [0, 1] rfl) (ci := 0) (q0 := 0) rfl rfl, zw_go (hP.sub (ws' := wA a b k u_26) [0, 1] rfl) (hD.sub (ws' := wA a b k u_26) [0, 1] (by decide) rfl) (hK.sub (tys' := [(k, .char)]) [0] rfl) (fun _ _ _ => trivial)⟩ rfl rfl hl.1 rfl (lv_room (Nat.le_of_ble_eq_true rfl)) d_A_translate_87 ⟨Nat.le_of_ble_eq_true rfl, Nat.le_of_ble_eq_true rfl⟩) hP hD hS hA [0, 1] [] [0, 1] rfl rfl (by decide) (by decide) (by decide) (fun _ => rfl) (fun r_27 _ H locs hw hP hD hS => ?_)
        have er_27 := hw
        refine lv_if_eq (tgt := 112) hx hb d_A_translate_90 (by decide) (fun c_28 => ?_) (fun c_28 => ?_)
        · refine lv_aload_n hx hb d_A_translate_112 rfl (lv_at hl 1 rfl) ?_
          refine lv_iconst (v := (0 : Int32)) hx hb d_A_translate_113 (by decide) ?_
          refine va_put (D := D) (ci := 0) (v := .int (0 : Int32)) (ty := .int) (C := "WindowMachine$Assembler") (T := T_A) (N := 5) hx hb ht zi_A ty_A tyok_A nm_A hown hK hP hD hS 0 rfl rfl 1 (by decide) (ht _ zw_46) (fun _ h9 => h9) rfl (by decide +kernel) rfl rfl (Nat.le_of_ble_eq_true rfl) d_A_translate_114 (fun H locs hP hD hS => ?_)
          have hP : va_P D vwCl (wA a b k (upd u_26.1 0 (0 : Int32), u_26.2)) H := hP
          have hD : va_D A (wA a b k (upd u_26.1 0 (0 : Int32), u_26.2)) := hD
          refine lv_iload_n hx hb d_A_translate_117 rfl (lv_at hl 0 rfl) ?_
          exact zl_i (u := (upd u_26.1 0 (0 : Int32), u_26.2)) hx hb hr hlocks hS hP hD (⟨by rw [hF_2]; simp only [fl_A_translate_10, ← er_24, ← eu_24, ← er_26, ← eu_26, ← er_27, if_neg c_3, if_neg c_13, if_pos c_23, if_neg c_25, if_pos c_28], by rw [hF_2]; simp only [fl_A_translate_10, ← er_24, ← eu_24, ← er_26, ← eu_26, ← er_27, if_neg c_3, if_neg c_13, if_pos c_23, if_neg c_25, if_pos c_28]⟩) d_A_translate_118
        refine lv_aload_n hx hb d_A_translate_93 rfl (lv_at hl 1 rfl) ?_
        refine va_get (D := D) (ci := 0) (v := .int (u_26.1 1)) (C := "WindowMachine$Assembler") (T := T_A) (N := 5) hx hb ht zi_A hown hK hP 0 rfl rfl 2 (by decide) (ht _ zw_47) (fun _ h9 => h9) rfl d_A_translate_94 ?_
        refine lv_aload_n hx hb d_A_translate_97 rfl (lv_at hl 1 rfl) ?_
        refine va_get (D := D) (ci := 0) (v := .int (u_26.1 0)) (C := "WindowMachine$Assembler") (T := T_A) (N := 5) hx hb ht zi_A hown hK hP 0 rfl rfl 1 (by decide) (ht _ zw_46) (fun _ h9 => h9) rfl d_A_translate_98 ?_
        refine lv_icmp_ge (tgt := 112) hx hb d_A_translate_101 (by decide) (fun c_29 => ?_) (fun c_29 => ?_)
        · refine lv_aload_n hx hb d_A_translate_112 rfl (lv_at hl 1 rfl) ?_
          refine lv_iconst (v := (0 : Int32)) hx hb d_A_translate_113 (by decide) ?_
          refine va_put (D := D) (ci := 0) (v := .int (0 : Int32)) (ty := .int) (C := "WindowMachine$Assembler") (T := T_A) (N := 5) hx hb ht zi_A ty_A tyok_A nm_A hown hK hP hD hS 0 rfl rfl 1 (by decide) (ht _ zw_46) (fun _ h9 => h9) rfl (by decide +kernel) rfl rfl (Nat.le_of_ble_eq_true rfl) d_A_translate_114 (fun H locs hP hD hS => ?_)
          have hP : va_P D vwCl (wA a b k (upd u_26.1 0 (0 : Int32), u_26.2)) H := hP
          have hD : va_D A (wA a b k (upd u_26.1 0 (0 : Int32), u_26.2)) := hD
          refine lv_iload_n hx hb d_A_translate_117 rfl (lv_at hl 0 rfl) ?_
          exact zl_i (u := (upd u_26.1 0 (0 : Int32), u_26.2)) hx hb hr hlocks hS hP hD (⟨by rw [hF_2]; simp only [fl_A_translate_10, ← er_24, ← eu_24, ← er_26, ← eu_26, ← er_27, if_neg c_3, if_neg c_13, if_pos c_23, if_neg c_25, if_neg c_28, if_pos c_29], by rw [hF_2]; simp only [fl_A_translate_10, ← er_24, ← eu_24, ← er_26, ← eu_26, ← er_27, if_neg c_3, if_neg c_13, if_pos c_23, if_neg c_25, if_neg c_28, if_pos c_29]⟩) d_A_translate_118
        refine lv_aload_n hx hb d_A_translate_104 rfl (lv_at hl 1 rfl) ?_
        refine lv_aload_n hx hb d_A_translate_105 rfl (lv_at hl 1 rfl) ?_
        refine va_get (D := D) (ci := 0) (v := .int (u_26.1 1)) (C := "WindowMachine$Assembler") (T := T_A) (N := 5) hx hb ht zi_A hown hK hP 0 rfl rfl 2 (by decide) (ht _ zw_47) (fun _ h9 => h9) rfl d_A_translate_106 ?_
        refine va_put (D := D) (ci := 0) (v := .int (u_26.1 1)) (ty := .int) (C := "WindowMachine$Assembler") (T := T_A) (N := 5) hx hb ht zi_A ty_A tyok_A nm_A hown hK hP hD hS 0 rfl rfl 3 (by decide) (ht _ zw_48) (fun _ h9 => h9) rfl (by decide +kernel) rfl rfl (Nat.le_of_ble_eq_true rfl) d_A_translate_109 (fun H locs hP hD hS => ?_)
        have hP : va_P D vwCl (wA a b k (upd u_26.1 2 (u_26.1 1), u_26.2)) H := hP
        have hD : va_D A (wA a b k (upd u_26.1 2 (u_26.1 1), u_26.2)) := hD
        refine lv_aload_n hx hb d_A_translate_112 rfl (lv_at hl 1 rfl) ?_
        refine lv_iconst (v := (0 : Int32)) hx hb d_A_translate_113 (by decide) ?_
        refine va_put (D := D) (ci := 0) (v := .int (0 : Int32)) (ty := .int) (C := "WindowMachine$Assembler") (T := T_A) (N := 5) hx hb ht zi_A ty_A tyok_A nm_A hown hK hP hD hS 0 rfl rfl 1 (by decide) (ht _ zw_46) (fun _ h9 => h9) rfl (by decide +kernel) rfl rfl (Nat.le_of_ble_eq_true rfl) d_A_translate_114 (fun H locs hP hD hS => ?_)
        have hP : va_P D vwCl (wA a b k (upd (upd u_26.1 2 (u_26.1 1)) 0 (0 : Int32), u_26.2)) H := hP
        have hD : va_D A (wA a b k (upd (upd u_26.1 2 (u_26.1 1)) 0 (0 : Int32), u_26.2)) := hD
        refine lv_iload_n hx hb d_A_translate_117 rfl (lv_at hl 0 rfl) ?_
        exact zl_i (u := (upd (upd u_26.1 2 (u_26.1 1)) 0 (0 : Int32), u_26.2)) hx hb hr hlocks hS hP hD (⟨by rw [hF_2]; simp only [fl_A_translate_10, ← er_24, ← eu_24, ← er_26, ← eu_26, ← er_27, if_neg c_3, if_neg c_13, if_pos c_23, if_neg c_25, if_neg c_28, if_neg c_29], by rw [hF_2]; simp only [fl_A_translate_10, ← er_24, ← eu_24, ← er_26, ← eu_26, ← er_27, if_neg c_3, if_neg c_13, if_pos c_23, if_neg c_25, if_neg c_28, if_neg c_29]⟩) d_A_translate_118
      refine lv_aload_n hx hb d_A_translate_71 rfl (lv_at hl 1 rfl) ?_
      refine lv_iconst (v := (0 : Int32)) hx hb d_A_translate_72 (by decide) ?_
      refine va_put (D := D) (ci := 0) (v := .int (0 : Int32)) (ty := .int) (C := "WindowMachine$Assembler") (T := T_A) (N := 5) hx hb ht zi_A ty_A tyok_A nm_A hown hK hP hD hS 0 rfl rfl 3 (by decide) (ht _ zw_48) (fun _ h9 => h9) rfl (by decide +kernel) rfl rfl (Nat.le_of_ble_eq_true rfl) d_A_translate_73 (fun H locs hP hD hS => ?_)
      have hP : va_P D vwCl (wA a b k (upd u_24.1 2 (0 : Int32), u_24.2)) H := hP
      have hD : va_D A (wA a b k (upd u_24.1 2 (0 : Int32), u_24.2)) := hD
      refine lv_goto (tgt := 86) hx hb d_A_translate_76 (by decide) ?_
      refine lv_aload_n hx hb d_A_translate_86 rfl (lv_at hl 1 rfl) ?_
      refine zc_i (w2 := fun _ => wA a b k (upd u_24.1 2 (0 : Int32), u_24.2)) (va_runV (As := []) (rest := []) ⟨hx, hb, hml, hown, ht⟩ (mt_A_isGood l D a b k H.size (upd u_24.1 2 (0 : Int32), u_24.2)) (cwV 0 ht (zgV zw_408 zw_410 zs_11 zw_3 zw_411) rfl rfl rfl kd_A_isGood ⟨Nat.le_of_ble_eq_true rfl, Nat.le_of_ble_eq_true rfl⟩) ⟨zw_blind zw_tt, va_recv (hK.sub (tys' := [(k, .char)]) [0] rfl) (hP.sub (ws' := wA a b k (upd u_24.1 2 (0 : Int32), u_24.2)) [0, 1] rfl) (ci := 0) (q0 := 0) rfl rfl, zw_go (hP.sub (ws' := wA a b k (upd u_24.1 2 (0 : Int32), u_24.2)) [0, 1] rfl) (hD.sub (ws' := wA a b k (upd u_24.1 2 (0 : Int32), u_24.2)) [0, 1] (by decide) rfl) (hK.sub (tys' := [(k, .char)]) [0] rfl) (fun _ _ _ => trivial)⟩ rfl rfl hl.1 rfl (lv_room (Nat.le_of_ble_eq_true rfl)) d_A_translate_87 ⟨Nat.le_of_ble_eq_true rfl, Nat.le_of_ble_eq_true rfl⟩) hP hD hS hA [0, 1] [] [0, 1] rfl rfl (by decide) (by decide) (by decide) (fun _ => rfl) (fun r_30 _ H locs hw hP hD hS => ?_)
      have er_30 := hw
      refine lv_if_eq (tgt := 112) hx hb d_A_translate_90 (by decide) (fun c_31 => ?_) (fun c_31 => ?_)
      · refine lv_aload_n hx hb d_A_translate_112 rfl (lv_at hl 1 rfl) ?_
        refine lv_iconst (v := (0 : Int32)) hx hb d_A_translate_113 (by decide) ?_
        refine va_put (D := D) (ci := 0) (v := .int (0 : Int32)) (ty := .int) (C := "WindowMachine$Assembler") (T := T_A) (N := 5) hx hb ht zi_A ty_A tyok_A nm_A hown hK hP hD hS 0 rfl rfl 1 (by decide) (ht _ zw_46) (fun _ h9 => h9) rfl (by decide +kernel) rfl rfl (Nat.le_of_ble_eq_true rfl) d_A_translate_114 (fun H locs hP hD hS => ?_)
        have hP : va_P D vwCl (wA a b k (upd (upd u_24.1 2 (0 : Int32)) 0 (0 : Int32), u_24.2)) H := hP
        have hD : va_D A (wA a b k (upd (upd u_24.1 2 (0 : Int32)) 0 (0 : Int32), u_24.2)) := hD
        refine lv_iload_n hx hb d_A_translate_117 rfl (lv_at hl 0 rfl) ?_
        exact zl_i (u := (upd (upd u_24.1 2 (0 : Int32)) 0 (0 : Int32), u_24.2)) hx hb hr hlocks hS hP hD (⟨by rw [hF_2]; simp only [fl_A_translate_10, ← er_24, ← eu_24, ← er_30, if_neg c_3, if_neg c_13, if_pos c_23, if_pos c_25, if_pos c_31], by rw [hF_2]; simp only [fl_A_translate_10, ← er_24, ← eu_24, ← er_30, if_neg c_3, if_neg c_13, if_pos c_23, if_pos c_25, if_pos c_31]⟩) d_A_translate_118
      refine lv_aload_n hx hb d_A_translate_93 rfl (lv_at hl 1 rfl) ?_
      refine va_get (D := D) (ci := 0) (v := .int (u_24.1 1)) (C := "WindowMachine$Assembler") (T := T_A) (N := 5) hx hb ht zi_A hown hK hP 0 rfl rfl 2 (by decide) (ht _ zw_47) (fun _ h9 => h9) rfl d_A_translate_94 ?_
      refine lv_aload_n hx hb d_A_translate_97 rfl (lv_at hl 1 rfl) ?_
      refine va_get (D := D) (ci := 0) (v := .int (u_24.1 0)) (C := "WindowMachine$Assembler") (T := T_A) (N := 5) hx hb ht zi_A hown hK hP 0 rfl rfl 1 (by decide) (ht _ zw_46) (fun _ h9 => h9) rfl d_A_translate_98 ?_
      refine lv_icmp_ge (tgt := 112) hx hb d_A_translate_101 (by decide) (fun c_32 => ?_) (fun c_32 => ?_)
      · refine lv_aload_n hx hb d_A_translate_112 rfl (lv_at hl 1 rfl) ?_
        refine lv_iconst (v := (0 : Int32)) hx hb d_A_translate_113 (by decide) ?_
        refine va_put (D := D) (ci := 0) (v := .int (0 : Int32)) (ty := .int) (C := "WindowMachine$Assembler") (T := T_A) (N := 5) hx hb ht zi_A ty_A tyok_A nm_A hown hK hP hD hS 0 rfl rfl 1 (by decide) (ht _ zw_46) (fun _ h9 => h9) rfl (by decide +kernel) rfl rfl (Nat.le_of_ble_eq_true rfl) d_A_translate_114 (fun H locs hP hD hS => ?_)
        have hP : va_P D vwCl (wA a b k (upd (upd u_24.1 2 (0 : Int32)) 0 (0 : Int32), u_24.2)) H := hP
        have hD : va_D A (wA a b k (upd (upd u_24.1 2 (0 : Int32)) 0 (0 : Int32), u_24.2)) := hD
        refine lv_iload_n hx hb d_A_translate_117 rfl (lv_at hl 0 rfl) ?_
        exact zl_i (u := (upd (upd u_24.1 2 (0 : Int32)) 0 (0 : Int32), u_24.2)) hx hb hr hlocks hS hP hD (⟨by rw [hF_2]; simp only [fl_A_translate_10, ← er_24, ← eu_24, ← er_30, if_neg c_3, if_neg c_13, if_pos c_23, if_pos c_25, if_neg c_31, if_pos c_32], by rw [hF_2]; simp only [fl_A_translate_10, ← er_24, ← eu_24, ← er_30, if_neg c_3, if_neg c_13, if_pos c_23, if_pos c_25, if_neg c_31, if_pos c_32]⟩) d_A_translate_118
      refine lv_aload_n hx hb d_A_translate_104 rfl (lv_at hl 1 rfl) ?_
      refine lv_aload_n hx hb d_A_translate_105 rfl (lv_at hl 1 rfl) ?_
      refine va_get (D := D) (ci := 0) (v := .int (u_24.1 1)) (C := "WindowMachine$Assembler") (T := T_A) (N := 5) hx hb ht zi_A hown hK hP 0 rfl rfl 2 (by decide) (ht _ zw_47) (fun _ h9 => h9) rfl d_A_translate_106 ?_
      refine va_put (D := D) (ci := 0) (v := .int (u_24.1 1)) (ty := .int) (C := "WindowMachine$Assembler") (T := T_A) (N := 5) hx hb ht zi_A ty_A tyok_A nm_A hown hK hP hD hS 0 rfl rfl 3 (by decide) (ht _ zw_48) (fun _ h9 => h9) rfl (by decide +kernel) rfl rfl (Nat.le_of_ble_eq_true rfl) d_A_translate_109 (fun H locs hP hD hS => ?_)
      have hP : va_P D vwCl (wA a b k (upd (upd u_24.1 2 (0 : Int32)) 2 (u_24.1 1), u_24.2)) H := hP
      have hD : va_D A (wA a b k (upd (upd u_24.1 2 (0 : Int32)) 2 (u_24.1 1), u_24.2)) := hD
      refine lv_aload_n hx hb d_A_translate_112 rfl (lv_at hl 1 rfl) ?_
      refine lv_iconst (v := (0 : Int32)) hx hb d_A_translate_113 (by decide) ?_
      refine va_put (D := D) (ci := 0) (v := .int (0 : Int32)) (ty := .int) (C := "WindowMachine$Assembler") (T := T_A) (N := 5) hx hb ht zi_A ty_A tyok_A nm_A hown hK hP hD hS 0 rfl rfl 1 (by decide) (ht _ zw_46) (fun _ h9 => h9) rfl (by decide +kernel) rfl rfl (Nat.le_of_ble_eq_true rfl) d_A_translate_114 (fun H locs hP hD hS => ?_)
      have hP : va_P D vwCl (wA a b k (upd (upd (upd u_24.1 2 (0 : Int32)) 2 (u_24.1 1)) 0 (0 : Int32), u_24.2)) H := hP
      have hD : va_D A (wA a b k (upd (upd (upd u_24.1 2 (0 : Int32)) 2 (u_24.1 1)) 0 (0 : Int32), u_24.2)) := hD
      refine lv_iload_n hx hb d_A_translate_117 rfl (lv_at hl 0 rfl) ?_
      exact zl_i (u := (upd (upd (upd u_24.1 2 (0 : Int32)) 2 (u_24.1 1)) 0 (0 : Int32), u_24.2)) hx hb hr hlocks hS hP hD (⟨by rw [hF_2]; simp only [fl_A_translate_10, ← er_24, ← eu_24, ← er_30, if_neg c_3, if_neg c_13, if_pos c_23, if_pos c_25, if_neg c_31, if_neg c_32], by rw [hF_2]; simp only [fl_A_translate_10, ← er_24, ← eu_24, ← er_30, if_neg c_3, if_neg c_13, if_pos c_23, if_pos c_25, if_neg c_31, if_neg c_32]⟩) d_A_translate_118
    refine lv_aload_n hx hb d_A_translate_49 rfl (lv_at hl 0 rfl) ?_
    refine lv_dup hx hb d_A_translate_50 rfl ?_
    refine va_get (D := D) (ci := 0) (v := .int (u_1.1 1)) (C := "WindowMachine$Assembler") (T := T_A) (N := 5) hx hb ht zi_A hown hK hP 0 rfl rfl 2 (by decide) (ht _ zw_47) (fun _ h9 => h9) rfl d_A_translate_51 ?_
    refine lv_iconst (v := (1 : Int32)) hx hb d_A_translate_54 (by decide) ?_
    refine lv_iadd hx hb d_A_translate_55 ?_
    refine va_put (D := D) (ci := 0) (v := .int ((u_1.1 1) + (1 : Int32))) (ty := .int) (C := "WindowMachine$Assembler") (T := T_A) (N := 5) hx hb ht zi_A ty_A tyok_A nm_A hown hK hP hD hS 0 rfl rfl 2 (by decide) (ht _ zw_47) (fun _ h9 => h9) rfl (by decide +kernel) rfl rfl (Nat.le_of_ble_eq_true rfl) d_A_translate_56 (fun H locs hP hD hS => ?_)
    have hP : va_P D vwCl (wA a b k (upd u_1.1 1 ((u_1.1 1) + (1 : Int32)), u_1.2)) H := hP
    have hD : va_D A (wA a b k (upd u_1.1 1 ((u_1.1 1) + (1 : Int32)), u_1.2)) := hD
    refine lv_goto (tgt := 10) hx hb d_A_translate_59 (by decide) ?_
    exact ih (upd u_1.1 1 ((u_1.1 1) + (1 : Int32)), u_1.2) _ _ _ ⟨by rw [hF_2]; simp only [fl_A_translate_10, if_neg c_3, if_neg c_13, if_neg c_23], ⟨ok_at hI.1 c_3, at_back hI c_3⟩, hP, hD, hS, hl⟩
  · obtain ⟨u_1, rfl⟩ : ∃ z, z = v9 := ⟨_, rfl⟩
    obtain ⟨-, hI, -⟩ := hG
    exact (by obtain ⟨⟨h1, h2, h3⟩, h4⟩ := hI; omega)
