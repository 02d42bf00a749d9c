theorem d_A_bitsOfName_0 : decode c_A_bitsOfName 0 = .ok (.aload_n 0, 1) := by decide +kernel
theorem d_A_bitsOfName_1 : decode c_A_bitsOfName 1 = .ok (.invokevirtual 40, 3) := by decide +kernel
theorem d_A_bitsOfName_4 : decode c_A_bitsOfName 4 = .ok (.istore_n 1, 1) := by decide +kernel
theorem d_A_bitsOfName_5 : decode c_A_bitsOfName 5 = .ok (.iload_n 1, 1) := by decide +kernel
theorem d_A_bitsOfName_6 : decode c_A_bitsOfName 6 = .ok (.ifCond .lt 19, 3) := by decide +kernel
theorem d_A_bitsOfName_9 : decode c_A_bitsOfName 9 = .ok (.aload_n 0, 1) := by decide +kernel
theorem d_A_bitsOfName_10 : decode c_A_bitsOfName 10 = .ok (.iload_n 1, 1) := by decide +kernel
theorem d_A_bitsOfName_11 : decode c_A_bitsOfName 11 = .ok (.invokestatic 43, 3) := by decide +kernel
theorem d_A_bitsOfName_14 : decode c_A_bitsOfName 14 = .ok (.putfield 47, 3) := by decide +kernel
theorem d_A_bitsOfName_17 : decode c_A_bitsOfName 17 = .ok (.ldc 50, 2) := by decide +kernel
theorem d_A_bitsOfName_19 : decode c_A_bitsOfName 19 = .ok (.iload_n 1, 1) := by decide +kernel
theorem d_A_bitsOfName_20 : decode c_A_bitsOfName 20 = .ok (.bipush 19, 2) := by decide +kernel
theorem d_A_bitsOfName_22 : decode c_A_bitsOfName 22 = .ok (.ishl, 1) := by decide +kernel
theorem d_A_bitsOfName_23 : decode c_A_bitsOfName 23 = .ok (.ior, 1) := by decide +kernel
theorem d_A_bitsOfName_24 : decode c_A_bitsOfName 24 = .ok (.ireturn, 1) := by decide +kernel
theorem d_A_bitsOfName_25 : decode c_A_bitsOfName 25 = .ok (.aload_n 0, 1) := by decide +kernel
theorem d_A_bitsOfName_26 : decode c_A_bitsOfName 26 = .ok (.ldc 51, 2) := by decide +kernel
theorem d_A_bitsOfName_28 : decode c_A_bitsOfName 28 = .ok (.iconst 0, 1) := by decide +kernel
theorem d_A_bitsOfName_29 : decode c_A_bitsOfName 29 = .ok (.invokevirtual 53, 3) := by decide +kernel
theorem d_A_bitsOfName_32 : decode c_A_bitsOfName 32 = .ok (.istore_n 1, 1) := by decide +kernel
theorem d_A_bitsOfName_33 : decode c_A_bitsOfName 33 = .ok (.iload_n 1, 1) := by decide +kernel
theorem d_A_bitsOfName_34 : decode c_A_bitsOfName 34 = .ok (.ifCond .lt 31, 3) := by decide +kernel
theorem d_A_bitsOfName_37 : decode c_A_bitsOfName 37 = .ok (.aload_n 0, 1) := by decide +kernel
theorem d_A_bitsOfName_38 : decode c_A_bitsOfName 38 = .ok (.iload_n 1, 1) := by decide +kernel
theorem d_A_bitsOfName_39 : decode c_A_bitsOfName 39 = .ok (.iconst 4, 1) := by decide +kernel
theorem d_A_bitsOfName_40 : decode c_A_bitsOfName 40 = .ok (.if_icmp .lt 13, 3) := by decide +kernel
theorem d_A_bitsOfName_43 : decode c_A_bitsOfName 43 = .ok (.iload_n 1, 1) := by decide +kernel
theorem d_A_bitsOfName_44 : decode c_A_bitsOfName 44 = .ok (.bipush 7, 2) := by decide +kernel
theorem d_A_bitsOfName_46 : decode c_A_bitsOfName 46 = .ok (.if_icmp .gt 7, 3) := by decide +kernel
theorem d_A_bitsOfName_49 : decode c_A_bitsOfName 49 = .ok (.iconst 4, 1) := by decide +kernel
theorem d_A_bitsOfName_50 : decode c_A_bitsOfName 50 = .ok (.goto 4, 3) := by decide +kernel
theorem d_A_bitsOfName_53 : decode c_A_bitsOfName 53 = .ok (.iconst 3, 1) := by decide +kernel
theorem d_A_bitsOfName_54 : decode c_A_bitsOfName 54 = .ok (.putfield 47, 3) := by decide +kernel
theorem d_A_bitsOfName_57 : decode c_A_bitsOfName 57 = .ok (.ldc 59, 2) := by decide +kernel
theorem d_A_bitsOfName_59 : decode c_A_bitsOfName 59 = .ok (.iload_n 1, 1) := by decide +kernel
theorem d_A_bitsOfName_60 : decode c_A_bitsOfName 60 = .ok (.bipush 19, 2) := by decide +kernel
theorem d_A_bitsOfName_62 : decode c_A_bitsOfName 62 = .ok (.ishl, 1) := by decide +kernel
theorem d_A_bitsOfName_63 : decode c_A_bitsOfName 63 = .ok (.ior, 1) := by decide +kernel
theorem d_A_bitsOfName_64 : decode c_A_bitsOfName 64 = .ok (.ireturn, 1) := by decide +kernel
theorem d_A_bitsOfName_65 : decode c_A_bitsOfName 65 = .ok (.aload_n 0, 1) := by decide +kernel
theorem d_A_bitsOfName_66 : decode c_A_bitsOfName 66 = .ok (.bipush 98, 2) := by decide +kernel
theorem d_A_bitsOfName_68 : decode c_A_bitsOfName 68 = .ok (.invokevirtual 60, 3) := by decide +kernel
theorem d_A_bitsOfName_71 : decode c_A_bitsOfName 71 = .ok (.istore_n 2, 1) := by decide +kernel
theorem d_A_bitsOfName_72 : decode c_A_bitsOfName 72 = .ok (.iload_n 2, 1) := by decide +kernel
theorem d_A_bitsOfName_73 : decode c_A_bitsOfName 73 = .ok (.ifCond .lt 17, 3) := by decide +kernel
theorem d_A_bitsOfName_76 : decode c_A_bitsOfName 76 = .ok (.aload_n 0, 1) := by decide +kernel
theorem d_A_bitsOfName_77 : decode c_A_bitsOfName 77 = .ok (.bipush 7, 2) := by decide +kernel
theorem d_A_bitsOfName_79 : decode c_A_bitsOfName 79 = .ok (.putfield 47, 3) := by decide +kernel
theorem d_A_bitsOfName_82 : decode c_A_bitsOfName 82 = .ok (.ldc 64, 2) := by decide +kernel
theorem d_A_bitsOfName_84 : decode c_A_bitsOfName 84 = .ok (.iload_n 2, 1) := by decide +kernel
theorem d_A_bitsOfName_85 : decode c_A_bitsOfName 85 = .ok (.bipush 25, 2) := by decide +kernel
theorem d_A_bitsOfName_87 : decode c_A_bitsOfName 87 = .ok (.ishl, 1) := by decide +kernel
theorem d_A_bitsOfName_88 : decode c_A_bitsOfName 88 = .ok (.ior, 1) := by decide +kernel
theorem d_A_bitsOfName_89 : decode c_A_bitsOfName 89 = .ok (.ireturn, 1) := by decide +kernel
theorem d_A_bitsOfName_90 : decode c_A_bitsOfName 90 = .ok (.aload_n 0, 1) := by decide +kernel
theorem d_A_bitsOfName_91 : decode c_A_bitsOfName 91 = .ok (.bipush 116, 2) := by decide +kernel
theorem d_A_bitsOfName_93 : decode c_A_bitsOfName 93 = .ok (.invokevirtual 60, 3) := by decide +kernel
theorem d_A_bitsOfName_96 : decode c_A_bitsOfName 96 = .ok (.istore_n 2, 1) := by decide +kernel
theorem d_A_bitsOfName_97 : decode c_A_bitsOfName 97 = .ok (.iload_n 2, 1) := by decide +kernel
theorem d_A_bitsOfName_98 : decode c_A_bitsOfName 98 = .ok (.ifCond .lt 19, 3) := by decide +kernel
theorem d_A_bitsOfName_101 : decode c_A_bitsOfName 101 = .ok (.aload_n 0, 1) := by decide +kernel
theorem d_A_bitsOfName_102 : decode c_A_bitsOfName 102 = .ok (.iconst 2, 1) := by decide +kernel
theorem d_A_bitsOfName_103 : decode c_A_bitsOfName 103 = .ok (.putfield 47, 3) := by decide +kernel
theorem d_A_bitsOfName_106 : decode c_A_bitsOfName 106 = .ok (.ldc 50, 2) := by decide +kernel
theorem d_A_bitsOfName_108 : decode c_A_bitsOfName 108 = .ok (.iload_n 2, 1) := by decide +kernel
theorem d_A_bitsOfName_109 : decode c_A_bitsOfName 109 = .ok (.bipush 25, 2) := by decide +kernel
theorem d_A_bitsOfName_111 : decode c_A_bitsOfName 111 = .ok (.ishl, 1) := by decide +kernel
theorem d_A_bitsOfName_112 : decode c_A_bitsOfName 112 = .ok (.ior, 1) := by decide +kernel
theorem d_A_bitsOfName_113 : decode c_A_bitsOfName 113 = .ok (.ldc 65, 2) := by decide +kernel
theorem d_A_bitsOfName_115 : decode c_A_bitsOfName 115 = .ok (.ior, 1) := by decide +kernel
theorem d_A_bitsOfName_116 : decode c_A_bitsOfName 116 = .ok (.ireturn, 1) := by decide +kernel
theorem d_A_bitsOfName_117 : decode c_A_bitsOfName 117 = .ok (.aload_n 0, 1) := by decide +kernel
theorem d_A_bitsOfName_118 : decode c_A_bitsOfName 118 = .ok (.invokevirtual 66, 3) := by decide +kernel
theorem d_A_bitsOfName_121 : decode c_A_bitsOfName 121 = .ok (.ireturn, 1) := by decide +kernel
theorem kd_A_bitsOfName : (y_A_bitsOfName).cls = "WindowMachine$Assembler" ∧ (y_A_bitsOfName).cls ≠ "java/lang/invoke/MethodHandle" ∧ (y_A_bitsOfName).cls ≠ "java/lang/invoke/VarHandle" ∧ (parseMethodDescriptor (y_A_bitsOfName).desc).map (fun d => d.parameters.length) = some 0 := by decide +kernel
def f_bitsOfName (st : SA) : Int32 × SA := (let r_1 := f_operationNamed st; (if r_1 < (0 : Int32) then (let r_3 := f_indexIn st 6 (0 : Int32); (if r_3 < (0 : Int32) then (let r_5 := f_conditionBehind st (98 : Int32); (if r_5 < (0 : Int32) then (let r_7 := f_conditionBehind st (116 : Int32); (if r_7 < (0 : Int32) then (let r_9 := (f_bitsOfOthers st).1; (let u_9 := (f_bitsOfOthers st).2; (r_9, u_9))) else (((-2147483648 : Int32) ||| (r_7 <<< ((25 : Int32) &&& 31))) ||| (30408704 : Int32), (upd st.1 3 (2 : Int32), st.2)))) else ((8388608 : Int32) ||| (r_5 <<< ((25 : Int32) &&& 31)), (upd st.1 3 (7 : Int32), st.2)))) else (let x_10 := (if r_3 < (4 : Int32) then (3 : Int32) else (if (7 : Int32) < r_3 then (3 : Int32) else (4 : Int32))); ((-1073741824 : Int32) ||| (r_3 <<< ((19 : Int32) &&& 31)), (upd st.1 3 x_10, st.2))))) else (let r_14 := f_formOf r_1; ((-2147483648 : Int32) ||| (r_1 <<< ((19 : Int32) &&& 31)), (upd st.1 3 r_14, st.2)))))
set_option maxHeartbeats 4000000 in
set_option maxRecDepth 100000 in
theorem mt_A_bitsOfName (l : Launch) (D : va_G) (za zk zv : Nat → Nat) (a b : Nat) (k : ClassId) (sz : Nat) (st : SA) (hA9 : okA st) : Met l y_A_bitsOfName w_A_bitsOfName ({ frames := 8, cells := 0, slots := 0, locals := 179 }) (va_Pc [.ref a] (zw_pre D vwCl [(k, .char)] sz (wA a b k st) (zz za zk zv (va_A (wA a b k st) sz)))) (va_Qi (fun r (u : SA) => r = (f_bitsOfName st).1 ∧ u = (f_bitsOfName st).2) (fun u t => zw_at D vwCl (va_A (wA a b k st) sz) ((fun (u : SA) => wA a b k u) u) t) (va_A (wA a b k st) sz)) 0 0 (va_A (wA a b k st) sz) := by
  refine zm (Qf := fun A => va_Qi (fun r (u : SA) => r = (f_bitsOfName st).1 ∧ u = (f_bitsOfName st).2) (fun u t => zw_at D vwCl A ((fun (u : SA) => wA a b k u) u) t) A) (Zf := fun A => zz za zk zv A) (cc := c_A_bitsOfName) (nL := 3) (ret := (some .int)) (by decide) rfl (Nat.le_of_ble_eq_true rfl) ?_
  intro p e s m below meth c9 A H locs ls hx hb hml hown hts hr hlocks hA hK hP hD hS hZ hl
  have hl : lv_has ls 3 [(0, .ref a)] := hl
  have ht : ∀ w9 ∈ zT, w9.before _ s = true := fun w9 h9 => hts w9 (List.mem_cons_of_mem _ h9)
  refine lv_aload_n hx hb d_A_bitsOfName_0 rfl (lv_at hl 0 rfl) ?_
  refine zc_i (w2 := fun _ => wA a b k st) (va_runV (As := []) (rest := []) ⟨hx, hb, hml, hown, ht⟩ (mt_A_operationNamed l D za zk zv a b k H.size st hA9) (cwV 0 ht (zgV zw_310 zw_312 zs_3 zw_3 zw_313) rfl rfl rfl kd_A_operationNamed ⟨Nat.le_of_ble_eq_true rfl, Nat.le_of_ble_eq_true rfl⟩) ⟨zw_blind zz_bl, va_recv (hK.sub (tys' := [(k, .char)]) [0] rfl) (hP.sub (ws' := wA a b k st) [0, 1] rfl) (ci := 0) (q0 := 0) rfl rfl, zw_go (hP.sub (ws' := wA a b k st) [0, 1] rfl) (hD.sub (ws' := wA a b k st) [0, 1] (by decide) rfl) (hK.sub (tys' := [(k, .char)]) [0] rfl) (fun U hU hW => zz_go hZ hS (va_free (wc := wA a b k st) hD hS hA [0, 1] rfl) hU hW)⟩ rfl rfl hl.1 rfl (lv_room (Nat.le_of_ble_eq_true rfl)) d_A_bitsOfName_1 ⟨Nat.le_of_ble_eq_true rfl, Nat.le_of_ble_eq_true rfl⟩) hP hD hS hA [0, 1] [] [0, 1] rfl rfl (by decide) (by decide) (by decide) (fun _ => rfl) (fun r_1 _ H locs hw hP hD hS => ?_)
  have er_1 := hw
  refine lv_istore_n (lv' := [(1, .int r_1), (0, .ref a)]) hx hb d_A_bitsOfName_4 rfl hl (by decide) rfl (fun ls hl => ?_)
  refine lv_iload_n hx hb d_A_bitsOfName_5 rfl (lv_at hl 0 rfl) ?_
  refine lv_if_lt (tgt := 25) hx hb d_A_bitsOfName_6 (by decide) (fun c_2 => ?_) (fun c_2 => ?_)
  · refine lv_aload_n hx hb d_A_bitsOfName_25 rfl (lv_at hl 1 rfl) ?_
    refine va_ldcS hx hb hown (zz_r6 hZ) d_A_bitsOfName_26 ?_
    refine lv_iconst (v := (0 : Int32)) hx hb d_A_bitsOfName_28 (by decide) ?_
    refine zc_i (w2 := fun _ => wA a b k st) (va_runV (As := [.ref (zk 6), .int (0 : Int32)]) (rest := []) ⟨hx, hb, hml, hown, ht⟩ (mt_A_indexIn l D za zk zv a b k H.size st 6 (by decide) (0 : Int32) hA9 (by decide)) (cwV 2 ht (zgV zw_319 zw_321 zs_5 zw_3 zw_322) rfl rfl rfl kd_A_indexIn ⟨Nat.le_of_ble_eq_true rfl, Nat.le_of_ble_eq_true rfl⟩) ⟨zw_blind zz_bl, va_recv (hK.sub (tys' := [(k, .char)]) [0] rfl) (hP.sub (ws' := wA a b k st) [0, 1] rfl) (ci := 0) (q0 := 0) rfl rfl, zw_go (hP.sub (ws' := wA a b k st) [0, 1] rfl) (hD.sub (ws' := wA a b k st) [0, 1] (by decide) rfl) (hK.sub (tys' := [(k, .char)]) [0] rfl) (fun U hU hW => zz_go hZ hS (va_free (wc := wA a b k st) hD hS hA [0, 1] rfl) hU hW)⟩ rfl rfl hl.1 rfl (lv_room (Nat.le_of_ble_eq_true rfl)) d_A_bitsOfName_29 ⟨Nat.le_of_ble_eq_true rfl, Nat.le_of_ble_eq_true rfl⟩) hP hD hS hA [0, 1] [] [0, 1] rfl rfl (by decide) (by decide) (by decide) (fun _ => rfl) (fun r_3 _ H locs hw hP hD hS => ?_)
    have er_3 := hw
    refine lv_istore_n (lv' := [(1, .int r_3), (0, .ref a)]) hx hb d_A_bitsOfName_32 rfl hl (by decide) rfl (fun ls hl => ?_)
    refine lv_iload_n hx hb d_A_bitsOfName_33 rfl (lv_at hl 0 rfl) ?_
    refine lv_if_lt (tgt := 65) hx hb d_A_bitsOfName_34 (by decide) (fun c_4 => ?_) (fun c_4 => ?_)
    · refine lv_aload_n hx hb d_A_bitsOfName_65 rfl (lv_at hl 1 rfl) ?_
      refine lv_bipush (v := (98 : Int32)) hx hb d_A_bitsOfName_66 (by decide) ?_
      refine zc_i (w2 := fun _ => wA a b k st) (va_runV (As := [.int (98 : Int32)]) (rest := []) ⟨hx, hb, hml, hown, ht⟩ (mt_A_conditionBehind l D za zk zv a b k H.size st (98 : Int32) hA9) (cwV 1 ht (zgV zw_386 zw_388 zs_7 zw_3 zw_389) rfl rfl rfl kd_A_conditionBehind ⟨Nat.le_of_ble_eq_true rfl, Nat.le_of_ble_eq_true rfl⟩) ⟨zw_blind zz_bl, va_recv (hK.sub (tys' := [(k, .char)]) [0] rfl) (hP.sub (ws' := wA a b k st) [0, 1] rfl) (ci := 0) (q0 := 0) rfl rfl, zw_go (hP.sub (ws' := wA a b k st) [0, 1] rfl) (hD.sub (ws' := wA a b k st) [0, 1] (by decide) rfl) (hK.sub (tys' := [(k, .char)]) [0] rfl) (fun U hU hW => zz_go hZ hS (va_free (wc := wA a b k st) hD hS hA [0, 1] rfl) hU hW)⟩ rfl rfl hl.1 rfl (lv_room (Nat.le_of_ble_eq_true rfl)) d_A_bitsOfName_68 ⟨Nat.le_of_ble_eq_true rfl, Nat.le_of_ble_eq_true rfl⟩) hP hD hS hA [0, 1] [] [0, 1] rfl rfl (by decide) (by decide) (by decide) (fun _ => rfl) (fun r_5 _ H locs hw hP hD hS => ?_)
      have er_5 := hw
      refine lv_istore_n (lv' := [(2, .int r_5), (1, .int r_3), (0, .ref a)]) hx hb d_A_bitsOfName_71 rfl hl (by decide) rfl (fun ls hl => ?_)
      refine lv_iload_n hx hb d_A_bitsOfName_72 rfl (lv_at hl 0 rfl) ?_
      refine lv_if_lt (tgt := 90) hx hb d_A_bitsOfName_73 (by decide) (fun c_6 => ?_) (fun c_6 => ?_)
      · refine lv_aload_n hx hb d_A_bitsOfName_90 rfl (lv_at hl 2 rfl) ?_
        refine lv_bipush (v := (116 : Int32)) hx hb d_A_bitsOfName_91 (by decide) ?_
        refine zc_i (w2 := fun _ => wA a b k st) (va_runV (As := [.int (116 : Int32)]) (rest := []) ⟨hx, hb, hml, hown, ht⟩ (mt_A_conditionBehind l D za zk zv a b k H.size st (116 : Int32) hA9) (cwV 1 ht (zgV zw_386 zw_388 zs_7 zw_3 zw_389) rfl rfl rfl kd_A_conditionBehind ⟨Nat.le_of_ble_eq_true rfl, Nat.le_of_ble_eq_true rfl⟩) ⟨zw_blind zz_bl, va_recv (hK.sub (tys' := [(k, .char)]) [0] rfl) (hP.sub (ws' := wA a b k st) [0, 1] rfl) (ci := 0) (q0 := 0) rfl rfl, zw_go (hP.sub (ws' := wA a b k st) [0, 1] rfl) (hD.sub (ws' := wA a b k st) [0, 1] (by decide) rfl) (hK.sub (tys' := [(k, .char)]) [0] rfl) (fun U hU hW => zz_go hZ hS (va_free (wc := wA a b k st) hD hS hA [0, 1] rfl) hU hW)⟩ rfl rfl hl.1 rfl (lv_room (Nat.le_of_ble_eq_true rfl)) d_A_bitsOfName_93 ⟨Nat.le_of_ble_eq_true rfl, Nat.le_of_ble_eq_true rfl⟩) hP hD hS hA [0, 1] [] [0, 1] rfl rfl (by decide) (by decide) (by decide) (fun _ => rfl) (fun r_7 _ H locs hw hP hD hS => ?_)
        have er_7 := hw
        refine lv_istore_n (lv' := [(2, .int r_7), (1, .int r_3), (0, .ref a)]) hx hb d_A_bitsOfName_96 rfl hl (by decide) rfl (fun ls hl => ?_)
        refine lv_iload_n hx hb d_A_bitsOfName_97 rfl (lv_at hl 0 rfl) ?_
        refine lv_if_lt (tgt := 117) hx hb d_A_bitsOfName_98 (by decide) (fun c_8 => ?_) (fun c_8 => ?_)
        · refine lv_aload_n hx hb d_A_bitsOfName_117 rfl (lv_at hl 2 rfl) ?_
          refine zc_i (w2 := fun u9 => wA a b k u9) (va_runV (As := []) (rest := []) ⟨hx, hb, hml, hown, ht⟩ (mt_A_bitsOfOthers l D za zk zv a b k H.size st hA9) (cwV 0 ht (zgV zw_393 zw_395 zs_8 zw_3 zw_396) rfl rfl rfl kd_A_bitsOfOthers ⟨Nat.le_of_ble_eq_true rfl, Nat.le_of_ble_eq_true rfl⟩) ⟨zw_blind zz_bl, va_recv (hK.sub (tys' := [(k, .char)]) [0] rfl) (hP.sub (ws' := wA a b k st) [0, 1] rfl) (ci := 0) (q0 := 0) rfl rfl, zw_go (hP.sub (ws' := wA a b k st) [0, 1] rfl) (hD.sub (ws' := wA a b k st) [0, 1] (by decide) rfl) (hK.sub (tys' := [(k, .char)]) [0] rfl) (fun U hU hW => zz_go hZ hS (va_free (wc := wA a b k st) hD hS hA [0, 1] rfl) hU hW)⟩ rfl rfl hl.1 rfl (lv_room (Nat.le_of_ble_eq_true rfl)) d_A_bitsOfName_118 ⟨Nat.le_of_ble_eq_true rfl, Nat.le_of_ble_eq_true rfl⟩) hP hD hS hA [0, 1] [] [0, 1] rfl rfl (by decide) (by decide) (by decide) (fun _ => rfl) (fun r_9 u_9 H locs hw hP hD hS => ?_)
          obtain ⟨er_9, eu_9⟩ := hw
          have ok_9 : okA u_9 := by rw [eu_9]; exact (ok_bitsOfOthers hA9)
          exact zl_i (u := u_9) hx hb hr hlocks hS hP hD (⟨by simp only [f_bitsOfName, ← er_1, ← er_3, ← er_5, ← er_7, ← er_9, ← eu_9, if_pos c_2, if_pos c_4, if_pos c_6, if_pos c_8], by simp only [f_bitsOfName, ← er_1, ← er_3, ← er_5, ← er_7, ← er_9, ← eu_9, if_pos c_2, if_pos c_4, if_pos c_6, if_pos c_8]⟩) d_A_bitsOfName_121
        refine lv_aload_n hx hb d_A_bitsOfName_101 rfl (lv_at hl 2 rfl) ?_
        refine lv_iconst (v := (2 : Int32)) hx hb d_A_bitsOfName_102 (by decide) ?_
        refine va_put (D := D) (ci := 0) (v := .int (2 : Int32)) (ty := .int) (C := "WindowMachine$Assembler") (T := T_A) (N := 5) hx hb ht zi_A ty_A tyok_A nm_A hown hK hP hD hS 0 rfl rfl 4 (by decide) (ht _ zw_50) (fun _ h9 => h9) rfl (by decide +kernel) rfl rfl (Nat.le_of_ble_eq_true rfl) d_A_bitsOfName_103 (fun H locs hP hD hS => ?_)
        have hP : va_P D vwCl (wA a b k (upd st.1 3 (2 : Int32), st.2)) H := hP
        have hD : va_D A (wA a b k (upd st.1 3 (2 : Int32), st.2)) := hD
        refine lv_ldc (v := (-2147483648 : Int32)) hx hb hown (ht _ zw_383) d_A_bitsOfName_106 ?_
        refine lv_iload_n hx hb d_A_bitsOfName_108 rfl (lv_at hl 0 rfl) ?_
        refine lv_bipush (v := (25 : Int32)) hx hb d_A_bitsOfName_109 (by decide) ?_
        refine lv_ishl hx hb d_A_bitsOfName_111 ?_
        refine lv_ior hx hb d_A_bitsOfName_112 ?_
        refine lv_ldc (v := (30408704 : Int32)) hx hb hown (ht _ zw_392) d_A_bitsOfName_113 ?_
        refine lv_ior hx hb d_A_bitsOfName_115 ?_
        exact zl_i (u := (upd st.1 3 (2 : Int32), st.2)) hx hb hr hlocks hS hP hD (⟨by simp only [f_bitsOfName, ← er_1, ← er_3, ← er_5, ← er_7, if_pos c_2, if_pos c_4, if_pos c_6, if_neg c_8], by simp only [f_bitsOfName, ← er_1, ← er_3, ← er_5, ← er_7, if_pos c_2, if_pos c_4, if_pos c_6, if_neg c_8]⟩) d_A_bitsOfName_116
      refine lv_aload_n hx hb d_A_bitsOfName_76 rfl (lv_at hl 2 rfl) ?_
      refine lv_bipush (v := (7 : Int32)) hx hb d_A_bitsOfName_77 (by decide) ?_
      refine va_put (D := D) (ci := 0) (v := .int (7 : Int32)) (ty := .int) (C := "WindowMachine$Assembler") (T := T_A) (N := 5) hx hb ht zi_A ty_A tyok_A nm_A hown hK hP hD hS 0 rfl rfl 4 (by decide) (ht _ zw_50) (fun _ h9 => h9) rfl (by decide +kernel) rfl rfl (Nat.le_of_ble_eq_true rfl) d_A_bitsOfName_79 (fun H locs hP hD hS => ?_)
      have hP : va_P D vwCl (wA a b k (upd st.1 3 (7 : Int32), st.2)) H := hP
      have hD : va_D A (wA a b k (upd st.1 3 (7 : Int32), st.2)) := hD
      refine lv_ldc (v := (8388608 : Int32)) hx hb hown (ht _ zw_391) d_A_bitsOfName_82 ?_
      refine lv_iload_n hx hb d_A_bitsOfName_84 rfl (lv_at hl 0 rfl) ?_
      refine lv_bipush (v := (25 : Int32)) hx hb d_A_bitsOfName_85 (by decide) ?_
      refine lv_ishl hx hb d_A_bitsOfName_87 ?_
      refine lv_ior hx hb d_A_bitsOfName_88 ?_
      exact zl_i (u := (upd st.1 3 (7 : Int32), st.2)) hx hb hr hlocks hS hP hD (⟨by simp only [f_bitsOfName, ← er_1, ← er_3, ← er_5, if_pos c_2, if_pos c_4, if_neg c_6], by simp only [f_bitsOfName, ← er_1, ← er_3, ← er_5, if_pos c_2, if_pos c_4, if_neg c_6]⟩) d_A_bitsOfName_89
    refine lv_aload_n hx hb d_A_bitsOfName_37 rfl (lv_at hl 1 rfl) ?_
    refine lv_iload_n hx hb d_A_bitsOfName_38 rfl (lv_at hl 0 rfl) ?_
    refine lv_iconst (v := (4 : Int32)) hx hb d_A_bitsOfName_39 (by decide) ?_
    refine zcut (X := Int32) (G := fun v9 H locs ls => v9 = (if r_3 < (4 : Int32) then (3 : Int32) else (if (7 : Int32) < r_3 then (3 : Int32) else (4 : Int32))) ∧ va_P D vwCl (wA a b k st) H ∧ va_D A (wA a b k st) ∧ va_S A s.heap H locs ∧ lv_has ls 3 [(0, .ref a), (1, .int r_3)]) (fr := fun v9 ls => F0 m 54 ls [.int v9, .ref a]) (fun J_11 => ?_) (fun v9 H locs ls hG => ?_)
    · refine lv_icmp_lt (tgt := 53) hx hb d_A_bitsOfName_40 (by decide) (fun c_12 => ?_) (fun c_12 => ?_)
      · refine lv_iconst (v := (3 : Int32)) hx hb d_A_bitsOfName_53 (by decide) ?_
        exact J_11 (3 : Int32) _ _ _ ⟨by simp only [if_pos c_12], hP, hD, hS, (lv_sub hl [1, 0] rfl)⟩
      refine lv_iload_n hx hb d_A_bitsOfName_43 rfl (lv_at hl 0 rfl) ?_
      refine lv_bipush (v := (7 : Int32)) hx hb d_A_bitsOfName_44 (by decide) ?_
      refine lv_icmp_gt (tgt := 53) hx hb d_A_bitsOfName_46 (by decide) (fun c_13 => ?_) (fun c_13 => ?_)
      · refine lv_iconst (v := (3 : Int32)) hx hb d_A_bitsOfName_53 (by decide) ?_
        exact J_11 (3 : Int32) _ _ _ ⟨by simp only [if_neg c_12, if_pos c_13], hP, hD, hS, (lv_sub hl [1, 0] rfl)⟩
      refine lv_iconst (v := (4 : Int32)) hx hb d_A_bitsOfName_49 (by decide) ?_
      refine lv_goto (tgt := 54) hx hb d_A_bitsOfName_50 (by decide) ?_
      exact J_11 (4 : Int32) _ _ _ ⟨by simp only [if_neg c_12, if_neg c_13], hP, hD, hS, (lv_sub hl [1, 0] rfl)⟩
    obtain ⟨x_10, rfl⟩ : ∃ z, z = v9 := ⟨_, rfl⟩
    obtain ⟨ex_10, hP, hD, hS, hl⟩ := hG
    refine va_put (D := D) (ci := 0) (v := .int x_10) (ty := .int) (C := "WindowMachine$Assembler") (T := T_A) (N := 5) hx hb ht zi_A ty_A tyok_A nm_A hown hK hP hD hS 0 rfl rfl 4 (by decide) (ht _ zw_50) (fun _ h9 => h9) rfl (by decide +kernel) rfl rfl (Nat.le_of_ble_eq_true rfl) d_A_bitsOfName_54 (fun H locs hP hD hS => ?_)
    have hP : va_P D vwCl (wA a b k (upd st.1 3 x_10, st.2)) H := hP
    have hD : va_D A (wA a b k (upd st.1 3 x_10, st.2)) := hD
    refine lv_ldc (v := (-1073741824 : Int32)) hx hb hown (ht _ zw_385) d_A_bitsOfName_57 ?_
    refine lv_iload_n hx hb d_A_bitsOfName_59 rfl (lv_at hl 1 rfl) ?_
    refine lv_bipush (v := (19 : Int32)) hx hb d_A_bitsOfName_60 (by decide) ?_
    refine lv_ishl hx hb d_A_bitsOfName_62 ?_
    refine lv_ior hx hb d_A_bitsOfName_63 ?_
    exact zl_i (u := (upd st.1 3 x_10, st.2)) hx hb hr hlocks hS hP hD (⟨by simp only [f_bitsOfName, ← er_1, ← er_3, ← ex_10, if_pos c_2, if_neg c_4], by simp only [f_bitsOfName, ← er_1, ← er_3, ← ex_10, if_pos c_2, if_neg c_4]⟩) d_A_bitsOfName_64
  refine lv_aload_n hx hb d_A_bitsOfName_9 rfl (lv_at hl 1 rfl) ?_
  refine lv_iload_n hx hb d_A_bitsOfName_10 rfl (lv_at hl 0 rfl) ?_
  refine zc_i (w2 := fun _ => wA a b k st) (va_runS (As := [.int r_1]) (rest := [.ref a]) ⟨hx, hb, hml, hown, ht⟩ (mt_A_formOf l D H.size r_1) (cwS 1 ht (zgS zw_380 zw_381 zw_3 zw_382) rfl rfl rfl kd_A_formOf ⟨Nat.le_of_ble_eq_true rfl, Nat.le_of_ble_eq_true rfl⟩) ⟨zw_blind zw_tt, zw_go (hP.sub (ws' := []) [] rfl) (hD.sub (ws' := []) [] (by decide) rfl) (hK.sub (tys' := []) [] rfl) (fun _ _ _ => trivial)⟩ rfl rfl hl.1 rfl (lv_room (Nat.le_of_ble_eq_true rfl)) d_A_bitsOfName_11 ⟨Nat.le_of_ble_eq_true rfl, Nat.le_of_ble_eq_true rfl⟩) hP hD hS hA [] [0, 1] [0, 1] rfl rfl (by decide) (by decide) (by decide) (fun _ => rfl) (fun r_14 _ H locs hw hP hD hS => ?_)
  have er_14 := hw
  refine va_put (D := D) (ci := 0) (v := .int r_14) (ty := .int) (C := "WindowMachine$Assembler") (T := T_A) (N := 5) hx hb ht zi_A ty_A tyok_A nm_A hown hK hP hD hS 0 rfl rfl 4 (by decide) (ht _ zw_50) (fun _ h9 => h9) rfl (by decide +kernel) rfl rfl (Nat.le_of_ble_eq_true rfl) d_A_bitsOfName_14 (fun H locs hP hD hS => ?_)
  have hP : va_P D vwCl (wA a b k (upd st.1 3 r_14, st.2)) H := hP
  have hD : va_D A (wA a b k (upd st.1 3 r_14, st.2)) := hD
  refine lv_ldc (v := (-2147483648 : Int32)) hx hb hown (ht _ zw_383) d_A_bitsOfName_17 ?_
  refine lv_iload_n hx hb d_A_bitsOfName_19 rfl (lv_at hl 0 rfl) ?_
  refine lv_bipush (v := (19 : Int32)) hx hb d_A_bitsOfName_20 (by decide) ?_
  refine lv_ishl hx hb d_A_bitsOfName_22 ?_
  refine lv_ior hx hb d_A_bitsOfName_23 ?_
  exact zl_i (u := (upd st.1 3 r_14, st.2)) hx hb hr hlocks hS hP hD (⟨by simp only [f_bitsOfName, ← er_1, ← er_14, if_neg c_2], by simp only [f_bitsOfName, ← er_1, ← er_14, if_neg c_2]⟩) d_A_bitsOfName_24
