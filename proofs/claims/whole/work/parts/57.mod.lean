theorem d_D_formed_0 : decode c_D_formed 0 = .ok (.iload_n 1, 1) := by decide +kernel
theorem d_D_formed_1 : decode c_D_formed 1 = .ok (.iconst 2, 1) := by decide +kernel
theorem d_D_formed_2 : decode c_D_formed 2 = .ok (.if_icmp .eq 8, 3) := by decide +kernel
theorem d_D_formed_5 : decode c_D_formed 5 = .ok (.iload_n 1, 1) := by decide +kernel
theorem d_D_formed_6 : decode c_D_formed 6 = .ok (.iconst 3, 1) := by decide +kernel
theorem d_D_formed_7 : decode c_D_formed 7 = .ok (.if_icmp .ne 7, 3) := by decide +kernel
theorem d_D_formed_10 : decode c_D_formed 10 = .ok (.iconst 2, 1) := by decide +kernel
theorem d_D_formed_11 : decode c_D_formed 11 = .ok (.goto 7, 3) := by decide +kernel
theorem d_D_formed_14 : decode c_D_formed 14 = .ok (.iload_n 2, 1) := by decide +kernel
theorem d_D_formed_15 : decode c_D_formed 15 = .ok (.bipush 6, 2) := by decide +kernel
theorem d_D_formed_17 : decode c_D_formed 17 = .ok (.ishr, 1) := by decide +kernel
theorem d_D_formed_18 : decode c_D_formed 18 = .ok (.istore_n 3, 1) := by decide +kernel
theorem d_D_formed_19 : decode c_D_formed 19 = .ok (.iload_n 1, 1) := by decide +kernel
theorem d_D_formed_20 : decode c_D_formed 20 = .ok (.iconst 3, 1) := by decide +kernel
theorem d_D_formed_21 : decode c_D_formed 21 = .ok (.if_icmp .ne 9, 3) := by decide +kernel
theorem d_D_formed_24 : decode c_D_formed 24 = .ok (.iload_n 2, 1) := by decide +kernel
theorem d_D_formed_25 : decode c_D_formed 25 = .ok (.iconst 5, 1) := by decide +kernel
theorem d_D_formed_26 : decode c_D_formed 26 = .ok (.ishr, 1) := by decide +kernel
theorem d_D_formed_27 : decode c_D_formed 27 = .ok (.goto 7, 3) := by decide +kernel
theorem d_D_formed_30 : decode c_D_formed 30 = .ok (.iload_n 2, 1) := by decide +kernel
theorem d_D_formed_31 : decode c_D_formed 31 = .ok (.bipush 63, 2) := by decide +kernel
theorem d_D_formed_33 : decode c_D_formed 33 = .ok (.iand, 1) := by decide +kernel
theorem d_D_formed_34 : decode c_D_formed 34 = .ok (.istore 4, 2) := by decide +kernel
theorem d_D_formed_36 : decode c_D_formed 36 = .ok (.iload_n 1, 1) := by decide +kernel
theorem d_D_formed_37 : decode c_D_formed 37 = .ok (.iconst 3, 1) := by decide +kernel
theorem d_D_formed_38 : decode c_D_formed 38 = .ok (.if_icmp .ne 10, 3) := by decide +kernel
theorem d_D_formed_41 : decode c_D_formed 41 = .ok (.iload_n 2, 1) := by decide +kernel
theorem d_D_formed_42 : decode c_D_formed 42 = .ok (.bipush 31, 2) := by decide +kernel
theorem d_D_formed_44 : decode c_D_formed 44 = .ok (.iand, 1) := by decide +kernel
theorem d_D_formed_45 : decode c_D_formed 45 = .ok (.goto 4, 3) := by decide +kernel
theorem d_D_formed_48 : decode c_D_formed 48 = .ok (.iconst 0, 1) := by decide +kernel
theorem d_D_formed_49 : decode c_D_formed 49 = .ok (.istore 5, 2) := by decide +kernel
theorem d_D_formed_51 : decode c_D_formed 51 = .ok (.iconst 0, 1) := by decide +kernel
theorem d_D_formed_52 : decode c_D_formed 52 = .ok (.istore 6, 2) := by decide +kernel
theorem d_D_formed_54 : decode c_D_formed 54 = .ok (.iconst 0, 1) := by decide +kernel
theorem d_D_formed_55 : decode c_D_formed 55 = .ok (.istore 7, 2) := by decide +kernel
theorem d_D_formed_57 : decode c_D_formed 57 = .ok (.iload_n 1, 1) := by decide +kernel
theorem d_D_formed_58 : decode c_D_formed 58 = .ok (.bipush 6, 2) := by decide +kernel
theorem d_D_formed_60 : decode c_D_formed 60 = .ok (.if_icmp .eq 8, 3) := by decide +kernel
theorem d_D_formed_63 : decode c_D_formed 63 = .ok (.iload_n 1, 1) := by decide +kernel
theorem d_D_formed_64 : decode c_D_formed 64 = .ok (.iconst 2, 1) := by decide +kernel
theorem d_D_formed_65 : decode c_D_formed 65 = .ok (.if_icmp .ne 9, 3) := by decide +kernel
theorem d_D_formed_68 : decode c_D_formed 68 = .ok (.aload_n 0, 1) := by decide +kernel
theorem d_D_formed_69 : decode c_D_formed 69 = .ok (.invokevirtual 449, 3) := by decide +kernel
theorem d_D_formed_72 : decode c_D_formed 72 = .ok (.istore 5, 2) := by decide +kernel
theorem d_D_formed_74 : decode c_D_formed 74 = .ok (.iload_n 1, 1) := by decide +kernel
theorem d_D_formed_75 : decode c_D_formed 75 = .ok (.bipush 6, 2) := by decide +kernel
theorem d_D_formed_77 : decode c_D_formed 77 = .ok (.if_icmp .ne 7, 3) := by decide +kernel
theorem d_D_formed_80 : decode c_D_formed 80 = .ok (.aload_n 0, 1) := by decide +kernel
theorem d_D_formed_81 : decode c_D_formed 81 = .ok (.invokevirtual 452, 3) := by decide +kernel
theorem d_D_formed_84 : decode c_D_formed 84 = .ok (.iload_n 1, 1) := by decide +kernel
theorem d_D_formed_85 : decode c_D_formed 85 = .ok (.iconst 2, 1) := by decide +kernel
theorem d_D_formed_86 : decode c_D_formed 86 = .ok (.if_icmp .eq 19, 3) := by decide +kernel
theorem d_D_formed_89 : decode c_D_formed 89 = .ok (.aload_n 0, 1) := by decide +kernel
theorem d_D_formed_90 : decode c_D_formed 90 = .ok (.invokevirtual 449, 3) := by decide +kernel
theorem d_D_formed_93 : decode c_D_formed 93 = .ok (.istore 6, 2) := by decide +kernel
theorem d_D_formed_95 : decode c_D_formed 95 = .ok (.aload_n 0, 1) := by decide +kernel
theorem d_D_formed_96 : decode c_D_formed 96 = .ok (.invokevirtual 452, 3) := by decide +kernel
theorem d_D_formed_99 : decode c_D_formed 99 = .ok (.aload_n 0, 1) := by decide +kernel
theorem d_D_formed_100 : decode c_D_formed 100 = .ok (.invokevirtual 455, 3) := by decide +kernel
theorem d_D_formed_103 : decode c_D_formed 103 = .ok (.istore 7, 2) := by decide +kernel
theorem d_D_formed_105 : decode c_D_formed 105 = .ok (.iload_n 1, 1) := by decide +kernel
theorem d_D_formed_106 : decode c_D_formed 106 = .ok (.ifCond .ne 13, 3) := by decide +kernel
theorem d_D_formed_109 : decode c_D_formed 109 = .ok (.aload_n 0, 1) := by decide +kernel
theorem d_D_formed_110 : decode c_D_formed 110 = .ok (.invokevirtual 452, 3) := by decide +kernel
theorem d_D_formed_113 : decode c_D_formed 113 = .ok (.aload_n 0, 1) := by decide +kernel
theorem d_D_formed_114 : decode c_D_formed 114 = .ok (.invokevirtual 449, 3) := by decide +kernel
theorem d_D_formed_117 : decode c_D_formed 117 = .ok (.istore 5, 2) := by decide +kernel
theorem d_D_formed_119 : decode c_D_formed 119 = .ok (.iload_n 3, 1) := by decide +kernel
theorem d_D_formed_120 : decode c_D_formed 120 = .ok (.bipush 30, 2) := by decide +kernel
theorem d_D_formed_122 : decode c_D_formed 122 = .ok (.ishl, 1) := by decide +kernel
theorem d_D_formed_123 : decode c_D_formed 123 = .ok (.iload 5, 2) := by decide +kernel
theorem d_D_formed_125 : decode c_D_formed 125 = .ok (.bipush 25, 2) := by decide +kernel
theorem d_D_formed_127 : decode c_D_formed 127 = .ok (.ishl, 1) := by decide +kernel
theorem d_D_formed_128 : decode c_D_formed 128 = .ok (.ior, 1) := by decide +kernel
theorem d_D_formed_129 : decode c_D_formed 129 = .ok (.iload 4, 2) := by decide +kernel
theorem d_D_formed_131 : decode c_D_formed 131 = .ok (.bipush 19, 2) := by decide +kernel
theorem d_D_formed_133 : decode c_D_formed 133 = .ok (.ishl, 1) := by decide +kernel
theorem d_D_formed_134 : decode c_D_formed 134 = .ok (.ior, 1) := by decide +kernel
theorem d_D_formed_135 : decode c_D_formed 135 = .ok (.iload 6, 2) := by decide +kernel
theorem d_D_formed_137 : decode c_D_formed 137 = .ok (.bipush 14, 2) := by decide +kernel
theorem d_D_formed_139 : decode c_D_formed 139 = .ok (.ishl, 1) := by decide +kernel
theorem d_D_formed_140 : decode c_D_formed 140 = .ok (.ior, 1) := by decide +kernel
theorem d_D_formed_141 : decode c_D_formed 141 = .ok (.iload 7, 2) := by decide +kernel
theorem d_D_formed_143 : decode c_D_formed 143 = .ok (.ior, 1) := by decide +kernel
theorem d_D_formed_144 : decode c_D_formed 144 = .ok (.ireturn, 1) := by decide +kernel
theorem kd_D_formed : (y_D_formed).cls = "WindowMachineModel" ∧ (y_D_formed).cls ≠ "java/lang/invoke/MethodHandle" ∧ (y_D_formed).cls ≠ "java/lang/invoke/VarHandle" ∧ (parseMethodDescriptor (y_D_formed).desc).map (fun d => d.parameters.length) = some 2 := by decide +kernel
def m_formed (st : SD) (p0 : Int32) (p1 : Int32) : Int32 × SD := (if p0 = (2 : Int32) then (let r_6 := (m_operand st).1; (let u_6 := (m_operand st).2; ((((((2 : Int32) <<< ((30 : Int32) &&& 31)) ||| (r_6 <<< ((25 : Int32) &&& 31))) ||| ((p1 &&& (63 : Int32)) <<< ((19 : Int32) &&& 31))) ||| ((0 : Int32) <<< ((14 : Int32) &&& 31))) ||| (0 : Int32), u_6))) else (if p0 = (3 : Int32) then (let x_33 := p1 >>> ((5 : Int32) &&& 31); (let r_39 := (m_operand st).1; (let u_39 := (m_operand st).2; (let u_40 := m_comma u_39; (let r_41 := (m_last u_40).1; (let u_41 := (m_last u_40).2; ((((((2 : Int32) <<< ((30 : Int32) &&& 31)) ||| ((p1 &&& (31 : Int32)) <<< ((25 : Int32) &&& 31))) ||| (x_33 <<< ((19 : Int32) &&& 31))) ||| (r_39 <<< ((14 : Int32) &&& 31))) ||| r_41, u_41))))))) else (let x_11 := p1 >>> ((6 : Int32) &&& 31); (if p0 = (6 : Int32) then (let r_15 := (m_operand st).1; (let u_15 := (m_operand st).2; (let u_17 := m_comma u_15; (let r_19 := (m_operand u_17).1; (let u_19 := (m_operand u_17).2; (let u_20 := m_comma u_19; (let r_21 := (m_last u_20).1; (let u_21 := (m_last u_20).2; (((((x_11 <<< ((30 : Int32) &&& 31)) ||| (r_15 <<< ((25 : Int32) &&& 31))) ||| ((p1 &&& (63 : Int32)) <<< ((19 : Int32) &&& 31))) ||| (r_19 <<< ((14 : Int32) &&& 31))) ||| r_21, u_21))))))))) else (let r_26 := (m_operand st).1; (let u_26 := (m_operand st).2; (let u_27 := m_comma u_26; (let r_28 := (m_last u_27).1; (let u_28 := (m_last u_27).2; (if p0 = (0 : Int32) then (let u_30 := m_comma u_28; (let r_31 := (m_operand u_30).1; (let u_31 := (m_operand u_30).2; (((((x_11 <<< ((30 : Int32) &&& 31)) ||| (r_31 <<< ((25 : Int32) &&& 31))) ||| ((p1 &&& (63 : Int32)) <<< ((19 : Int32) &&& 31))) ||| (r_26 <<< ((14 : Int32) &&& 31))) ||| r_28, u_31)))) else (((((x_11 <<< ((30 : Int32) &&& 31)) ||| ((0 : Int32) <<< ((25 : Int32) &&& 31))) ||| ((p1 &&& (63 : Int32)) <<< ((19 : Int32) &&& 31))) ||| (r_26 <<< ((14 : Int32) &&& 31))) ||| r_28, u_28)))))))))))
set_option maxHeartbeats 4000000 in
set_option maxRecDepth 100000 in
theorem mt_D_formed (l : Launch) (D : va_G) (h : Nat → Nat) (c : Nat → ClassId) (sz : Nat) (st : SD) (p0 : Int32) (p1 : Int32) (k9 : Nat) (hk : k9 < 500) (hL : okL k9 st) : Met l y_D_formed w_D_formed ({ frames := 5, cells := 0, slots := 0, locals := 114 }) (va_Pc [.ref (h 20), .int p0, .int p1] (zw_pre D vwCl [(c 21, .long), (c 22, .int), (c 23, .int), (c 24, .int), (c 25, .int), (c 26, .int), (c 27, .int), (c 28, .int)] sz (wD h c st) (fun _ => True))) (va_Qi (fun r (u : SD) => r = (m_formed st p0 p1).1 ∧ u = (m_formed st p0 p1).2) (fun u t => zw_at D vwCl (va_A (wD h c st) sz) ((fun (u : SD) => wD h c u) u) t) (va_A (wD h c st) sz)) 0 0 (va_A (wD h c st) sz) := by
  refine zm (Qf := fun A => va_Qi (fun r (u : SD) => r = (m_formed st p0 p1).1 ∧ u = (m_formed st p0 p1).2) (fun u t => zw_at D vwCl A ((fun (u : SD) => wD h c u) u) t) A) (Zf := fun _ _ => True) (cc := c_D_formed) (nL := 8) (ret := (some .int)) (by decide) rfl (Nat.le_of_ble_eq_true rfl) ?_
  intro p e s m below meth c9 A H locs ls hx hb hml hown hts hr hlocks hA hK hP hD hS hZ hl
  have hl : lv_has ls 8 [(0, .ref (h 20)), (1, .int p0), (2, .int p1)] := hl
  have ht : ∀ w9 ∈ zT, w9.before _ s = true := fun w9 h9 => hts w9 (List.mem_cons_of_mem _ h9)
  refine lv_iload_n hx hb d_D_formed_0 rfl (lv_at hl 1 rfl) ?_
  refine lv_iconst (v := (2 : Int32)) hx hb d_D_formed_1 (by decide) ?_
  refine lv_icmp_eq (tgt := 10) hx hb d_D_formed_2 (by decide) (fun c_1 => ?_) (fun c_1 => ?_)
  · refine lv_iconst (v := (2 : Int32)) hx hb d_D_formed_10 (by decide) ?_
    refine lv_goto (tgt := 18) hx hb d_D_formed_11 (by decide) ?_
    refine lv_istore_n (lv' := [(3, .int (2 : Int32)), (0, .ref (h 20)), (1, .int p0), (2, .int p1)]) hx hb d_D_formed_18 rfl hl (by decide) rfl (fun ls hl => ?_)
    refine lv_iload_n hx hb d_D_formed_19 rfl (lv_at hl 2 rfl) ?_
    refine lv_iconst (v := (3 : Int32)) hx hb d_D_formed_20 (by decide) ?_
    refine lv_icmp_ne (tgt := 30) hx hb d_D_formed_21 (by decide) (fun c_2 => ?_) (fun c_2 => absurd c_2 (fun z9 => absurd (c_1.symm.trans z9) (by decide)))
    refine lv_iload_n hx hb d_D_formed_30 rfl (lv_at hl 3 rfl) ?_
    refine lv_bipush (v := (63 : Int32)) hx hb d_D_formed_31 (by decide) ?_
    refine lv_iand hx hb d_D_formed_33 ?_
    refine lv_istore (lv' := [(4, .int (p1 &&& (63 : Int32))), (3, .int (2 : Int32)), (0, .ref (h 20)), (1, .int p0), (2, .int p1)]) hx hb d_D_formed_34 hl (by decide) rfl (fun ls hl => ?_)
    refine lv_iload_n hx hb d_D_formed_36 rfl (lv_at hl 3 rfl) ?_
    refine lv_iconst (v := (3 : Int32)) hx hb d_D_formed_37 (by decide) ?_
    refine lv_icmp_ne (tgt := 48) hx hb d_D_formed_38 (by decide) (fun c_3 => ?_) (fun c_3 => absurd c_3 (fun z9 => absurd (c_1.symm.trans z9) (by decide)))
    refine lv_iconst (v := (0 : Int32)) hx hb d_D_formed_48 (by decide) ?_
    refine lv_istore (lv' := [(5, .int (0 : Int32)), (4, .int (p1 &&& (63 : Int32))), (3, .int (2 : Int32)), (0, .ref (h 20)), (1, .int p0), (2, .int p1)]) hx hb d_D_formed_49 hl (by decide) rfl (fun ls hl => ?_)
    refine lv_iconst (v := (0 : Int32)) hx hb d_D_formed_51 (by decide) ?_
    refine lv_istore (lv' := [(6, .int (0 : Int32)), (5, .int (0 : Int32)), (4, .int (p1 &&& (63 : Int32))), (3, .int (2 : Int32)), (0, .ref (h 20)), (1, .int p0), (2, .int p1)]) hx hb d_D_formed_52 hl (by decide) rfl (fun ls hl => ?_)
    refine lv_iconst (v := (0 : Int32)) hx hb d_D_formed_54 (by decide) ?_
    refine lv_istore (lv' := [(7, .int (0 : Int32)), (6, .int (0 : Int32)), (5, .int (0 : Int32)), (4, .int (p1 &&& (63 : Int32))), (3, .int (2 : Int32)), (0, .ref (h 20)), (1, .int p0), (2, .int p1)]) hx hb d_D_formed_55 hl (by decide) rfl (fun ls hl => ?_)
    refine lv_iload_n hx hb d_D_formed_57 rfl (lv_at hl 6 rfl) ?_
    refine lv_bipush (v := (6 : Int32)) hx hb d_D_formed_58 (by decide) ?_
    refine lv_icmp_eq (tgt := 68) hx hb d_D_formed_60 (by decide) (fun c_4 => absurd c_4 (fun z9 => absurd (c_1.symm.trans z9) (by decide))) (fun c_4 => ?_)
    refine lv_iload_n hx hb d_D_formed_63 rfl (lv_at hl 6 rfl) ?_
    refine lv_iconst (v := (2 : Int32)) hx hb d_D_formed_64 (by decide) ?_
    refine lv_icmp_ne (tgt := 74) hx hb d_D_formed_65 (by decide) (fun c_5 => absurd c_1 c_5) (fun c_5 => ?_)
    refine lv_aload_n hx hb d_D_formed_68 rfl (lv_at hl 5 rfl) ?_
    refine zc_i (w2 := fun u9 => wD h c u9) (va_runV (As := []) (rest := []) ⟨hx, hb, hml, hown, ht⟩ (mt_D_operand l D h c H.size st _ (by omega) hL) (cwV 0 ht (zgV zw_1142 zw_1144 zs_81 zw_7 zw_1145) rfl rfl rfl kd_D_operand ⟨Nat.le_of_ble_eq_true rfl, Nat.le_of_ble_eq_true rfl⟩) ⟨zw_blind zw_tt, va_recv (hK.sub (tys' := [(c 21, .long), (c 22, .int), (c 23, .int), (c 24, .int), (c 25, .int), (c 26, .int), (c 27, .int), (c 28, .int)]) [0, 1, 2, 3, 4, 5, 6, 7] rfl) (hP.sub (ws' := wD h c st) [0, 1, 2, 3, 4, 5, 6, 7, 8] rfl) (ci := 6) (q0 := 0) rfl rfl, zw_go (hP.sub (ws' := wD h c st) [0, 1, 2, 3, 4, 5, 6, 7, 8] rfl) (hD.sub (ws' := wD h c st) [0, 1, 2, 3, 4, 5, 6, 7, 8] (by decide) rfl) (hK.sub (tys' := [(c 21, .long), (c 22, .int), (c 23, .int), (c 24, .int), (c 25, .int), (c 26, .int), (c 27, .int), (c 28, .int)]) [0, 1, 2, 3, 4, 5, 6, 7] rfl) (fun _ _ _ => trivial)⟩ rfl rfl hl.1 rfl (lv_room (Nat.le_of_ble_eq_true rfl)) d_D_formed_69 ⟨Nat.le_of_ble_eq_true rfl, Nat.le_of_ble_eq_true rfl⟩) hP hD hS hA [0, 1, 2, 3, 4, 5, 6, 7, 8] [] [0, 1, 2, 3, 4, 5, 6, 7, 8] rfl rfl (by decide) (by decide) (by decide) (fun _ => rfl) (fun r_6 u_6 H locs hw hP hD hS => ?_)
    obtain ⟨er_6, eu_6⟩ := hw
    have ok_6 : okL (k9 + 5) u_6 := by rw [eu_6]; exact (ol_operand (by omega) hL)
    refine lv_istore (lv' := [(5, .int r_6), (7, .int (0 : Int32)), (6, .int (0 : Int32)), (4, .int (p1 &&& (63 : Int32))), (3, .int (2 : Int32)), (0, .ref (h 20)), (1, .int p0), (2, .int p1)]) hx hb d_D_formed_72 hl (by decide) rfl (fun ls hl => ?_)
    refine lv_iload_n hx hb d_D_formed_74 rfl (lv_at hl 6 rfl) ?_
    refine lv_bipush (v := (6 : Int32)) hx hb d_D_formed_75 (by decide) ?_
    refine lv_icmp_ne (tgt := 84) hx hb d_D_formed_77 (by decide) (fun c_7 => ?_) (fun c_7 => absurd c_7 (fun z9 => absurd (c_1.symm.trans z9) (by decide)))
    refine lv_iload_n hx hb d_D_formed_84 rfl (lv_at hl 6 rfl) ?_
    refine lv_iconst (v := (2 : Int32)) hx hb d_D_formed_85 (by decide) ?_
    refine lv_icmp_eq (tgt := 105) hx hb d_D_formed_86 (by decide) (fun c_8 => ?_) (fun c_8 => absurd c_1 c_8)
    refine lv_iload_n hx hb d_D_formed_105 rfl (lv_at hl 6 rfl) ?_
    refine lv_if_ne (tgt := 119) hx hb d_D_formed_106 (by decide) (fun c_9 => ?_) (fun c_9 => absurd c_9 (fun z9 => absurd (c_1.symm.trans z9) (by decide)))
    refine lv_iload_n hx hb d_D_formed_119 rfl (lv_at hl 4 rfl) ?_
    refine lv_bipush (v := (30 : Int32)) hx hb d_D_formed_120 (by decide) ?_
    refine lv_ishl hx hb d_D_formed_122 ?_
    refine lv_iload hx hb d_D_formed_123 (lv_at hl 0 rfl) ?_
    refine lv_bipush (v := (25 : Int32)) hx hb d_D_formed_125 (by decide) ?_
    refine lv_ishl hx hb d_D_formed_127 ?_
    refine lv_ior hx hb d_D_formed_128 ?_
    refine lv_iload hx hb d_D_formed_129 (lv_at hl 3 rfl) ?_
    refine lv_bipush (v := (19 : Int32)) hx hb d_D_formed_131 (by decide) ?_
    refine lv_ishl hx hb d_D_formed_133 ?_
    refine lv_ior hx hb d_D_formed_134 ?_
    refine lv_iload hx hb d_D_formed_135 (lv_at hl 2 rfl) ?_
    refine lv_bipush (v := (14 : Int32)) hx hb d_D_formed_137 (by decide) ?_
    refine lv_ishl hx hb d_D_formed_139 ?_
    refine lv_ior hx hb d_D_formed_140 ?_
    refine lv_iload hx hb d_D_formed_141 (lv_at hl 1 rfl) ?_
    refine lv_ior hx hb d_D_formed_143 ?_
    exact zl_i (u := u_6) hx hb hr hlocks hS hP hD (⟨by simp only [m_formed, ← er_6, ← eu_6]; try simp only [if_pos c_1], by simp only [m_formed, ← er_6, ← eu_6]; try simp only [if_pos c_1]⟩) d_D_formed_144
  refine lv_iload_n hx hb d_D_formed_5 rfl (lv_at hl 1 rfl) ?_
  refine lv_iconst (v := (3 : Int32)) hx hb d_D_formed_6 (by decide) ?_
  refine lv_icmp_ne (tgt := 14) hx hb d_D_formed_7 (by decide) (fun c_10 => ?_) (fun c_10 => ?_)
  · refine lv_iload_n hx hb d_D_formed_14 rfl (lv_at hl 2 rfl) ?_
    refine lv_bipush (v := (6 : Int32)) hx hb d_D_formed_15 (by decide) ?_
    refine lv_ishr hx hb d_D_formed_17 ?_
    refine lv_topi (fun x_11 ex_11 => ?_)
    refine lv_istore_n (lv' := [(3, .int x_11), (0, .ref (h 20)), (1, .int p0), (2, .int p1)]) hx hb d_D_formed_18 rfl hl (by decide) rfl (fun ls hl => ?_)
    refine lv_iload_n hx hb d_D_formed_19 rfl (lv_at hl 2 rfl) ?_
    refine lv_iconst (v := (3 : Int32)) hx hb d_D_formed_20 (by decide) ?_
    refine lv_icmp_ne (tgt := 30) hx hb d_D_formed_21 (by decide) (fun c_12 => ?_) (fun c_12 => absurd c_12 c_10)
    refine lv_iload_n hx hb d_D_formed_30 rfl (lv_at hl 3 rfl) ?_
    refine lv_bipush (v := (63 : Int32)) hx hb d_D_formed_31 (by decide) ?_
    refine lv_iand hx hb d_D_formed_33 ?_
    refine lv_istore (lv' := [(4, .int (p1 &&& (63 : Int32))), (3, .int x_11), (0, .ref (h 20)), (1, .int p0), (2, .int p1)]) hx hb d_D_formed_34 hl (by decide) rfl (fun ls hl => ?_)
    refine lv_iload_n hx hb d_D_formed_36 rfl (lv_at hl 3 rfl) ?_
    refine lv_iconst (v := (3 : Int32)) hx hb d_D_formed_37 (by decide) ?_
    refine lv_icmp_ne (tgt := 48) hx hb d_D_formed_38 (by decide) (fun c_13 => ?_) (fun c_13 => absurd c_13 c_10)
    refine lv_iconst (v := (0 : Int32)) hx hb d_D_formed_48 (by decide) ?_
    refine lv_istore (lv' := [(5, .int (0 : Int32)), (4, .int (p1 &&& (63 : Int32))), (3, .int x_11), (0, .ref (h 20)), (1, .int p0), (2, .int p1)]) hx hb d_D_formed_49 hl (by decide) rfl (fun ls hl => ?_)
    refine lv_iconst (v := (0 : Int32)) hx hb d_D_formed_51 (by decide) ?_
    refine lv_istore (lv' := [(6, .int (0 : Int32)), (5, .int (0 : Int32)), (4, .int (p1 &&& (63 : Int32))), (3, .int x_11), (0, .ref (h 20)), (1, .int p0), (2, .int p1)]) hx hb d_D_formed_52 hl (by decide) rfl (fun ls hl => ?_)
    refine lv_iconst (v := (0 : Int32)) hx hb d_D_formed_54 (by decide) ?_
    refine lv_istore (lv' := [(7, .int (0 : Int32)), (6, .int (0 : Int32)), (5, .int (0 : Int32)), (4, .int (p1 &&& (63 : Int32))), (3, .int x_11), (0, .ref (h 20)), (1, .int p0), (2, .int p1)]) hx hb d_D_formed_55 hl (by decide) rfl (fun ls hl => ?_)
    refine lv_iload_n hx hb d_D_formed_57 rfl (lv_at hl 6 rfl) ?_
    refine lv_bipush (v := (6 : Int32)) hx hb d_D_formed_58 (by decide) ?_
    refine lv_icmp_eq (tgt := 68) hx hb d_D_formed_60 (by decide) (fun c_14 => ?_) (fun c_14 => ?_)
    · refine lv_aload_n hx hb d_D_formed_68 rfl (lv_at hl 5 rfl) ?_
      refine zc_i (w2 := fun u9 => wD h c u9) (va_runV (As := []) (rest := []) ⟨hx, hb, hml, hown, ht⟩ (mt_D_operand l D h c H.size st _ (by omega) hL) (cwV 0 ht (zgV zw_1142 zw_1144 zs_81 zw_7 zw_1145) rfl rfl rfl kd_D_operand ⟨Nat.le_of_ble_eq_true rfl, Nat.le_of_ble_eq_true rfl⟩) ⟨zw_blind zw_tt, va_recv (hK.sub (tys' := [(c 21, .long), (c 22, .int), (c 23, .int), (c 24, .int), (c 25, .int), (c 26, .int), (c 27, .int), (c 28, .int)]) [0, 1, 2, 3, 4, 5, 6, 7] rfl) (hP.sub (ws' := wD h c st) [0, 1, 2, 3, 4, 5, 6, 7, 8] rfl) (ci := 6) (q0 := 0) rfl rfl, zw_go (hP.sub (ws' := wD h c st) [0, 1, 2, 3, 4, 5, 6, 7, 8] rfl) (hD.sub (ws' := wD h c st) [0, 1, 2, 3, 4, 5, 6, 7, 8] (by decide) rfl) (hK.sub (tys' := [(c 21, .long), (c 22, .int), (c 23, .int), (c 24, .int), (c 25, .int), (c 26, .int), (c 27, .int), (c 28, .int)]) [0, 1, 2, 3, 4, 5, 6, 7] rfl) (fun _ _ _ => trivial)⟩ rfl rfl hl.1 rfl (lv_room (Nat.le_of_ble_eq_true rfl)) d_D_formed_69 ⟨Nat.le_of_ble_eq_true rfl, Nat.le_of_ble_eq_true rfl⟩) hP hD hS hA [0, 1, 2, 3, 4, 5, 6, 7, 8] [] [0, 1, 2, 3, 4, 5, 6, 7, 8] rfl rfl (by decide) (by decide) (by decide) (fun _ => rfl) (fun r_15 u_15 H locs hw hP hD hS => ?_)
      obtain ⟨er_15, eu_15⟩ := hw
      have ok_15 : okL (k9 + 5) u_15 := by rw [eu_15]; exact (ol_operand (by omega) hL)
      refine lv_istore (lv' := [(5, .int r_15), (7, .int (0 : Int32)), (6, .int (0 : Int32)), (4, .int (p1 &&& (63 : Int32))), (3, .int x_11), (0, .ref (h 20)), (1, .int p0), (2, .int p1)]) hx hb d_D_formed_72 hl (by decide) rfl (fun ls hl => ?_)
      refine lv_iload_n hx hb d_D_formed_74 rfl (lv_at hl 6 rfl) ?_
      refine lv_bipush (v := (6 : Int32)) hx hb d_D_formed_75 (by decide) ?_
      refine lv_icmp_ne (tgt := 84) hx hb d_D_formed_77 (by decide) (fun c_16 => absurd c_14 c_16) (fun c_16 => ?_)
      refine lv_aload_n hx hb d_D_formed_80 rfl (lv_at hl 5 rfl) ?_
      refine zc_v (w2 := fun u9 => wD h c u9) (va_runV (As := []) (rest := []) ⟨hx, hb, hml, hown, ht⟩ (mt_D_comma l D h c H.size u_15 _ (by omega) ok_15) (cwV 0 ht (zgV zw_1138 zw_1140 zs_80 zw_7 zw_1141) rfl rfl rfl kd_D_comma ⟨Nat.le_of_ble_eq_true rfl, Nat.le_of_ble_eq_true rfl⟩) ⟨zw_blind zw_tt, va_recv (hK.sub (tys' := [(c 21, .long), (c 22, .int), (c 23, .int), (c 24, .int), (c 25, .int), (c 26, .int), (c 27, .int), (c 28, .int)]) [0, 1, 2, 3, 4, 5, 6, 7] rfl) (hP.sub (ws' := wD h c u_15) [0, 1, 2, 3, 4, 5, 6, 7, 8] rfl) (ci := 6) (q0 := 0) rfl rfl, zw_go (hP.sub (ws' := wD h c u_15) [0, 1, 2, 3, 4, 5, 6, 7, 8] rfl) (hD.sub (ws' := wD h c u_15) [0, 1, 2, 3, 4, 5, 6, 7, 8] (by decide) rfl) (hK.sub (tys' := [(c 21, .long), (c 22, .int), (c 23, .int), (c 24, .int), (c 25, .int), (c 26, .int), (c 27, .int), (c 28, .int)]) [0, 1, 2, 3, 4, 5, 6, 7] rfl) (fun _ _ _ => trivial)⟩ rfl rfl hl.1 rfl (lv_room (Nat.le_of_ble_eq_true rfl)) d_D_formed_81 ⟨Nat.le_of_ble_eq_true rfl, Nat.le_of_ble_eq_true rfl⟩) hP hD hS hA [0, 1, 2, 3, 4, 5, 6, 7, 8] [] [0, 1, 2, 3, 4, 5, 6, 7, 8] rfl rfl (by decide) (by decide) (by decide) (fun _ => rfl) (fun u_17 H locs hw hP hD hS => ?_)
      have eu_17 := hw
      have ok_17 : okL (k9 + 6) u_17 := by rw [eu_17]; exact (ol_comma (by omega) ok_15)
      refine lv_iload_n hx hb d_D_formed_84 rfl (lv_at hl 6 rfl) ?_
      refine lv_iconst (v := (2 : Int32)) hx hb d_D_formed_85 (by decide) ?_
      refine lv_icmp_eq (tgt := 105) hx hb d_D_formed_86 (by decide) (fun c_18 => absurd c_18 c_1) (fun c_18 => ?_)
      refine lv_aload_n hx hb d_D_formed_89 rfl (lv_at hl 5 rfl) ?_
      refine zc_i (w2 := fun u9 => wD h c u9) (va_runV (As := []) (rest := []) ⟨hx, hb, hml, hown, ht⟩ (mt_D_operand l D h c H.size u_17 _ (by omega) ok_17) (cwV 0 ht (zgV zw_1142 zw_1144 zs_81 zw_7 zw_1145) rfl rfl rfl kd_D_operand ⟨Nat.le_of_ble_eq_true rfl, Nat.le_of_ble_eq_true rfl⟩) ⟨zw_blind zw_tt, va_recv (hK.sub (tys' := [(c 21, .long), (c 22, .int), (c 23, .int), (c 24, .int), (c 25, .int), (c 26, .int), (c 27, .int), (c 28, .int)]) [0, 1, 2, 3, 4, 5, 6, 7] rfl) (hP.sub (ws' := wD h c u_17) [0, 1, 2, 3, 4, 5, 6, 7, 8] rfl) (ci := 6) (q0 := 0) rfl rfl, zw_go (hP.sub (ws' := wD h c u_17) [0, 1, 2, 3, 4, 5, 6, 7, 8] rfl) (hD.sub (ws' := wD h c u_17) [0, 1, 2, 3, 4, 5, 6, 7, 8] (by decide) rfl) (hK.sub (tys' := [(c 21, .long), (c 22, .int), (c 23, .int), (c 24, .int), (c 25, .int), (c 26, .int), (c 27, .int), (c 28, .int)]) [0, 1, 2, 3, 4, 5, 6, 7] rfl) (fun _ _ _ => trivial)⟩ rfl rfl hl.1 rfl (lv_room (Nat.le_of_ble_eq_true rfl)) d_D_formed_90 ⟨Nat.le_of_ble_eq_true rfl, Nat.le_of_ble_eq_true rfl⟩) hP hD hS hA [0, 1, 2, 3, 4, 5, 6, 7, 8] [] [0, 1, 2, 3, 4, 5, 6, 7, 8] rfl rfl (by decide) (by decide) (by decide) (fun _ => rfl) (fun r_19 u_19 H locs hw hP hD hS => ?_)
      obtain ⟨er_19, eu_19⟩ := hw
      have ok_19 : okL (k9 + 11) u_19 := by rw [eu_19]; exact (ol_operand (by omega) ok_17)
      refine lv_istore (lv' := [(6, .int r_19), (5, .int r_15), (7, .int (0 : Int32)), (4, .int (p1 &&& (63 : Int32))), (3, .int x_11), (0, .ref (h 20)), (1, .int p0), (2, .int p1)]) hx hb d_D_formed_93 hl (by decide) rfl (fun ls hl => ?_)
      refine lv_aload_n hx hb d_D_formed_95 rfl (lv_at hl 5 rfl) ?_
      refine zc_v (w2 := fun u9 => wD h c u9) (va_runV (As := []) (rest := []) ⟨hx, hb, hml, hown, ht⟩ (mt_D_comma l D h c H.size u_19 _ (by omega) ok_19) (cwV 0 ht (zgV zw_1138 zw_1140 zs_80 zw_7 zw_1141) rfl rfl rfl kd_D_comma ⟨Nat.le_of_ble_eq_true rfl, Nat.le_of_ble_eq_true rfl⟩) ⟨zw_blind zw_tt, va_recv (hK.sub (tys' := [(c 21, .long), (c 22, .int), (c 23, .int), (c 24, .int), (c 25, .int), (c 26, .int), (c 27, .int), (c 28, .int)]) [0, 1, 2, 3, 4, 5, 6, 7] rfl) (hP.sub (ws' := wD h c u_19) [0, 1, 2, 3, 4, 5, 6, 7, 8] rfl) (ci := 6) (q0 := 0) rfl rfl, zw_go (hP.sub (ws' := wD h c u_19) [0, 1, 2, 3, 4, 5, 6, 7, 8] rfl) (hD.sub (ws' := wD h c u_19) [0, 1, 2, 3, 4, 5, 6, 7, 8] (by decide) rfl) (hK.sub (tys' := [(c 21, .long), (c 22, .int), (c 23, .int), (c 24, .int), (c 25, .int), (c 26, .int), (c 27, .int), (c 28, .int)]) [0, 1, 2, 3, 4, 5, 6, 7] rfl) (fun _ _ _ => trivial)⟩ rfl rfl hl.1 rfl (lv_room (Nat.le_of_ble_eq_true rfl)) d_D_formed_96 ⟨Nat.le_of_ble_eq_true rfl, Nat.le_of_ble_eq_true rfl⟩) hP hD hS hA [0, 1, 2, 3, 4, 5, 6, 7, 8] [] [0, 1, 2, 3, 4, 5, 6, 7, 8] rfl rfl (by decide) (by decide) (by decide) (fun _ => rfl) (fun u_20 H locs hw hP hD hS => ?_)
      have eu_20 := hw
      have ok_20 : okL (k9 + 12) u_20 := by rw [eu_20]; exact (ol_comma (by omega) ok_19)
      refine lv_aload_n hx hb d_D_formed_99 rfl (lv_at hl 5 rfl) ?_
      refine zc_i (w2 := fun u9 => wD h c u9) (va_runV (As := []) (rest := []) ⟨hx, hb, hml, hown, ht⟩ (mt_D_last l D h c H.size u_20 _ (by omega) ok_20) (cwV 0 ht (zgV zw_1167 zw_1169 zs_85 zw_7 zw_1170) rfl rfl rfl kd_D_last ⟨Nat.le_of_ble_eq_true rfl, Nat.le_of_ble_eq_true rfl⟩) ⟨zw_blind zw_tt, va_recv (hK.sub (tys' := [(c 21, .long), (c 22, .int), (c 23, .int), (c 24, .int), (c 25, .int), (c 26, .int), (c 27, .int), (c 28, .int)]) [0, 1, 2, 3, 4, 5, 6, 7] rfl) (hP.sub (ws' := wD h c u_20) [0, 1, 2, 3, 4, 5, 6, 7, 8] rfl) (ci := 6) (q0 := 0) rfl rfl, zw_go (hP.sub (ws' := wD h c u_20) [0, 1, 2, 3, 4, 5, 6, 7, 8] rfl) (hD.sub (ws' := wD h c u_20) [0, 1, 2, 3, 4, 5, 6, 7, 8] (by decide) rfl) (hK.sub (tys' := [(c 21, .long), (c 22, .int), (c 23, .int), (c 24, .int), (c 25, .int), (c 26, .int), (c 27, .int), (c 28, .int)]) [0, 1, 2, 3, 4, 5, 6, 7] rfl) (fun _ _ _ => trivial)⟩ rfl rfl hl.1 rfl (lv_room (Nat.le_of_ble_eq_true rfl)) d_D_formed_100 ⟨Nat.le_of_ble_eq_true rfl, Nat.le_of_ble_eq_true rfl⟩) hP hD hS hA [0, 1, 2, 3, 4, 5, 6, 7, 8] [] [0, 1, 2, 3, 4, 5, 6, 7, 8] rfl rfl (by decide) (by decide) (by decide) (fun _ => rfl) (fun r_21 u_21 H locs hw hP hD hS => ?_)
      obtain ⟨er_21, eu_21⟩ := hw
      have ok_21 : okL (k9 + 25) u_21 := by rw [eu_21]; exact (ol_last (by omega) ok_20)
      refine lv_istore (lv' := [(7, .int r_21), (6, .int r_19), (5, .int r_15), (4, .int (p1 &&& (63 : Int32))), (3, .int x_11), (0, .ref (h 20)), (1, .int p0), (2, .int p1)]) hx hb d_D_formed_103 hl (by decide) rfl (fun ls hl => ?_)
      refine lv_iload_n hx hb d_D_formed_105 rfl (lv_at hl 6 rfl) ?_
      refine lv_if_ne (tgt := 119) hx hb d_D_formed_106 (by decide) (fun c_22 => ?_) (fun c_22 => absurd c_22 (fun z9 => absurd (c_14.symm.trans z9) (by decide)))
      refine lv_iload_n hx hb d_D_formed_119 rfl (lv_at hl 4 rfl) ?_
      refine lv_bipush (v := (30 : Int32)) hx hb d_D_formed_120 (by decide) ?_
      refine lv_ishl hx hb d_D_formed_122 ?_
      refine lv_iload hx hb d_D_formed_123 (lv_at hl 2 rfl) ?_
      refine lv_bipush (v := (25 : Int32)) hx hb d_D_formed_125 (by decide) ?_
      refine lv_ishl hx hb d_D_formed_127 ?_
      refine lv_ior hx hb d_D_formed_128 ?_
      refine lv_iload hx hb d_D_formed_129 (lv_at hl 3 rfl) ?_
      refine lv_bipush (v := (19 : Int32)) hx hb d_D_formed_131 (by decide) ?_
      refine lv_ishl hx hb d_D_formed_133 ?_
      refine lv_ior hx hb d_D_formed_134 ?_
      refine lv_iload hx hb d_D_formed_135 (lv_at hl 1 rfl) ?_
      refine lv_bipush (v := (14 : Int32)) hx hb d_D_formed_137 (by decide) ?_
      refine lv_ishl hx hb d_D_formed_139 ?_
      refine lv_ior hx hb d_D_formed_140 ?_
      refine lv_iload hx hb d_D_formed_141 (lv_at hl 0 rfl) ?_
      refine lv_ior hx hb d_D_formed_143 ?_
      exact zl_i (u := u_21) hx hb hr hlocks hS hP hD (⟨by simp only [m_formed, ← ex_11, ← er_15, ← eu_15, ← eu_17, ← er_19, ← eu_19, ← eu_20, ← er_21, ← eu_21]; try simp only [if_neg c_1, if_neg c_10, if_pos c_14], by simp only [m_formed, ← ex_11, ← er_15, ← eu_15, ← eu_17, ← er_19, ← eu_19, ← eu_20, ← er_21, ← eu_21]; try simp only [if_neg c_1, if_neg c_10, if_pos c_14]⟩) d_D_formed_144
    refine lv_iload_n hx hb d_D_formed_63 rfl (lv_at hl 6 rfl) ?_
    refine lv_iconst (v := (2 : Int32)) hx hb d_D_formed_64 (by decide) ?_
    refine lv_icmp_ne (tgt := 74) hx hb d_D_formed_65 (by decide) (fun c_23 => ?_) (fun c_23 => absurd c_23 c_1)
    refine lv_iload_n hx hb d_D_formed_74 rfl (lv_at hl 6 rfl) ?_
    refine lv_bipush (v := (6 : Int32)) hx hb d_D_formed_75 (by decide) ?_
    refine lv_icmp_ne (tgt := 84) hx hb d_D_formed_77 (by decide) (fun c_24 => ?_) (fun c_24 => absurd c_24 c_14)
    refine lv_iload_n hx hb d_D_formed_84 rfl (lv_at hl 6 rfl) ?_
    refine lv_iconst (v := (2 : Int32)) hx hb d_D_formed_85 (by decide) ?_
    refine lv_icmp_eq (tgt := 105) hx hb d_D_formed_86 (by decide) (fun c_25 => absurd c_25 c_1) (fun c_25 => ?_)
    refine lv_aload_n hx hb d_D_formed_89 rfl (lv_at hl 5 rfl) ?_
    refine zc_i (w2 := fun u9 => wD h c u9) (va_runV (As := []) (rest := []) ⟨hx, hb, hml, hown, ht⟩ (mt_D_operand l D h c H.size st _ (by omega) hL) (cwV 0 ht (zgV zw_1142 zw_1144 zs_81 zw_7 zw_1145) rfl rfl rfl kd_D_operand ⟨Nat.le_of_ble_eq_true rfl, Nat.le_of_ble_eq_true rfl⟩) ⟨zw_blind zw_tt, va_recv (hK.sub (tys' := [(c 21, .long), (c 22, .int), (c 23, .int), (c 24, .int), (c 25, .int), (c 26, .int), (c 27, .int), (c 28, .int)]) [0, 1, 2, 3, 4, 5, 6, 7] rfl) (hP.sub (ws' := wD h c st) [0, 1, 2, 3, 4, 5, 6, 7, 8] rfl) (ci := 6) (q0 := 0) rfl rfl, zw_go (hP.sub (ws' := wD h c st) [0, 1, 2, 3, 4, 5, 6, 7, 8] rfl) (hD.sub (ws' := wD h c st) [0, 1, 2, 3, 4, 5, 6, 7, 8] (by decide) rfl) (hK.sub (tys' := [(c 21, .long), (c 22, .int), (c 23, .int), (c 24, .int), (c 25, .int), (c 26, .int), (c 27, .int), (c 28, .int)]) [0, 1, 2, 3, 4, 5, 6, 7] rfl) (fun _ _ _ => trivial)⟩ rfl rfl hl.1 rfl (lv_room (Nat.le_of_ble_eq_true rfl)) d_D_formed_90 ⟨Nat.le_of_ble_eq_true rfl, Nat.le_of_ble_eq_true rfl⟩) hP hD hS hA [0, 1, 2, 3, 4, 5, 6, 7, 8] [] [0, 1, 2, 3, 4, 5, 6, 7, 8] rfl rfl (by decide) (by decide) (by decide) (fun _ => rfl) (fun r_26 u_26 H locs hw hP hD hS => ?_)
    obtain ⟨er_26, eu_26⟩ := hw
    have ok_26 : okL (k9 + 5) u_26 := by rw [eu_26]; exact (ol_operand (by omega) hL)
    refine lv_istore (lv' := [(6, .int r_26), (7, .int (0 : Int32)), (5, .int (0 : Int32)), (4, .int (p1 &&& (63 : Int32))), (3, .int x_11), (0, .ref (h 20)), (1, .int p0), (2, .int p1)]) hx hb d_D_formed_93 hl (by decide) rfl (fun ls hl => ?_)
    refine lv_aload_n hx hb d_D_formed_95 rfl (lv_at hl 5 rfl) ?_
    refine zc_v (w2 := fun u9 => wD h c u9) (va_runV (As := []) (rest := []) ⟨hx, hb, hml, hown, ht⟩ (mt_D_comma l D h c H.size u_26 _ (by omega) ok_26) (cwV 0 ht (zgV zw_1138 zw_1140 zs_80 zw_7 zw_1141) rfl rfl rfl kd_D_comma ⟨Nat.le_of_ble_eq_true rfl, Nat.le_of_ble_eq_true rfl⟩) ⟨zw_blind zw_tt, va_recv (hK.sub (tys' := [(c 21, .long), (c 22, .int), (c 23, .int), (c 24, .int), (c 25, .int), (c 26, .int), (c 27, .int), (c 28, .int)]) [0, 1, 2, 3, 4, 5, 6, 7] rfl) (hP.sub (ws' := wD h c u_26) [0, 1, 2, 3, 4, 5, 6, 7, 8] rfl) (ci := 6) (q0 := 0) rfl rfl, zw_go (hP.sub (ws' := wD h c u_26) [0, 1, 2, 3, 4, 5, 6, 7, 8] rfl) (hD.sub (ws' := wD h c u_26) [0, 1, 2, 3, 4, 5, 6, 7, 8] (by decide) rfl) (hK.sub (tys' := [(c 21, .long), (c 22, .int), (c 23, .int), (c 24, .int), (c 25, .int), (c 26, .int), (c 27, .int), (c 28, .int)]) [0, 1, 2, 3, 4, 5, 6, 7] rfl) (fun _ _ _ => trivial)⟩ rfl rfl hl.1 rfl (lv_room (Nat.le_of_ble_eq_true rfl)) d_D_formed_96 ⟨Nat.le_of_ble_eq_true rfl, Nat.le_of_ble_eq_true rfl⟩) hP hD hS hA [0, 1, 2, 3, 4, 5, 6, 7, 8] [] [0, 1, 2, 3, 4, 5, 6, 7, 8] rfl rfl (by decide) (by decide) (by decide) (fun _ => rfl) (fun u_27 H locs hw hP hD hS => ?_)
    have eu_27 := hw
    have ok_27 : okL (k9 + 6) u_27 := by rw [eu_27]; exact (ol_comma (by omega) ok_26)
    refine lv_aload_n hx hb d_D_formed_99 rfl (lv_at hl 5 rfl) ?_
    refine zc_i (w2 := fun u9 => wD h c u9) (va_runV (As := []) (rest := []) ⟨hx, hb, hml, hown, ht⟩ (mt_D_last l D h c H.size u_27 _ (by omega) ok_27) (cwV 0 ht (zgV zw_1167 zw_1169 zs_85 zw_7 zw_1170) rfl rfl rfl kd_D_last ⟨Nat.le_of_ble_eq_true rfl, Nat.le_of_ble_eq_true rfl⟩) ⟨zw_blind zw_tt, va_recv (hK.sub (tys' := [(c 21, .long), (c 22, .int), (c 23, .int), (c 24, .int), (c 25, .int), (c 26, .int), (c 27, .int), (c 28, .int)]) [0, 1, 2, 3, 4, 5, 6, 7] rfl) (hP.sub (ws' := wD h c u_27) [0, 1, 2, 3, 4, 5, 6, 7, 8] rfl) (ci := 6) (q0 := 0) rfl rfl, zw_go (hP.sub (ws' := wD h c u_27) [0, 1, 2, 3, 4, 5, 6, 7, 8] rfl) (hD.sub (ws' := wD h c u_27) [0, 1, 2, 3, 4, 5, 6, 7, 8] (by decide) rfl) (hK.sub (tys' := [(c 21, .long), (c 22, .int), (c 23, .int), (c 24, .int), (c 25, .int), (c 26, .int), (c 27, .int), (c 28, .int)]) [0, 1, 2, 3, 4, 5, 6, 7] rfl) (fun _ _ _ => trivial)⟩ rfl rfl hl.1 rfl (lv_room (Nat.le_of_ble_eq_true rfl)) d_D_formed_100 ⟨Nat.le_of_ble_eq_true rfl, Nat.le_of_ble_eq_true rfl⟩) hP hD hS hA [0, 1, 2, 3, 4, 5, 6, 7, 8] [] [0, 1, 2, 3, 4, 5, 6, 7, 8] rfl rfl (by decide) (by decide) (by decide) (fun _ => rfl) (fun r_28 u_28 H locs hw hP hD hS => ?_)
    obtain ⟨er_28, eu_28⟩ := hw
    have ok_28 : okL (k9 + 19) u_28 := by rw [eu_28]; exact (ol_last (by omega) ok_27)
    refine lv_istore (lv' := [(7, .int r_28), (6, .int r_26), (5, .int (0 : Int32)), (4, .int (p1 &&& (63 : Int32))), (3, .int x_11), (0, .ref (h 20)), (1, .int p0), (2, .int p1)]) hx hb d_D_formed_103 hl (by decide) rfl (fun ls hl => ?_)
    refine lv_iload_n hx hb d_D_formed_105 rfl (lv_at hl 6 rfl) ?_
    refine lv_if_ne (tgt := 119) hx hb d_D_formed_106 (by decide) (fun c_29 => ?_) (fun c_29 => ?_)
    · refine lv_iload_n hx hb d_D_formed_119 rfl (lv_at hl 4 rfl) ?_
      refine lv_bipush (v := (30 : Int32)) hx hb d_D_formed_120 (by decide) ?_
      refine lv_ishl hx hb d_D_formed_122 ?_
      refine lv_iload hx hb d_D_formed_123 (lv_at hl 2 rfl) ?_
      refine lv_bipush (v := (25 : Int32)) hx hb d_D_formed_125 (by decide) ?_
      refine lv_ishl hx hb d_D_formed_127 ?_
      refine lv_ior hx hb d_D_formed_128 ?_
      refine lv_iload hx hb d_D_formed_129 (lv_at hl 3 rfl) ?_
      refine lv_bipush (v := (19 : Int32)) hx hb d_D_formed_131 (by decide) ?_
      refine lv_ishl hx hb d_D_formed_133 ?_
      refine lv_ior hx hb d_D_formed_134 ?_
      refine lv_iload hx hb d_D_formed_135 (lv_at hl 1 rfl) ?_
      refine lv_bipush (v := (14 : Int32)) hx hb d_D_formed_137 (by decide) ?_
      refine lv_ishl hx hb d_D_formed_139 ?_
      refine lv_ior hx hb d_D_formed_140 ?_
      refine lv_iload hx hb d_D_formed_141 (lv_at hl 0 rfl) ?_
      refine lv_ior hx hb d_D_formed_143 ?_
      exact zl_i (u := u_28) hx hb hr hlocks hS hP hD (⟨by simp only [m_formed, ← ex_11, ← er_26, ← eu_26, ← eu_27, ← er_28, ← eu_28]; try simp only [if_neg c_1, if_neg c_10, if_neg c_14, if_neg c_29], by simp only [m_formed, ← ex_11, ← er_26, ← eu_26, ← eu_27, ← er_28, ← eu_28]; try simp only [if_neg c_1, if_neg c_10, if_neg c_14, if_neg c_29]⟩) d_D_formed_144
    refine lv_aload_n hx hb d_D_formed_109 rfl (lv_at hl 5 rfl) ?_
    refine zc_v (w2 := fun u9 => wD h c u9) (va_runV (As := []) (rest := []) ⟨hx, hb, hml, hown, ht⟩ (mt_D_comma l D h c H.size u_28 _ (by omega) ok_28) (cwV 0 ht (zgV zw_1138 zw_1140 zs_80 zw_7 zw_1141) rfl rfl rfl kd_D_comma ⟨Nat.le_of_ble_eq_true rfl, Nat.le_of_ble_eq_true rfl⟩) ⟨zw_blind zw_tt, va_recv (hK.sub (tys' := [(c 21, .long), (c 22, .int), (c 23, .int), (c 24, .int), (c 25, .int), (c 26, .int), (c 27, .int), (c 28, .int)]) [0, 1, 2, 3, 4, 5, 6, 7] rfl) (hP.sub (ws' := wD h c u_28) [0, 1, 2, 3, 4, 5, 6, 7, 8] rfl) (ci := 6) (q0 := 0) rfl rfl, zw_go (hP.sub (ws' := wD h c u_28) [0, 1, 2, 3, 4, 5, 6, 7, 8] rfl) (hD.sub (ws' := wD h c u_28) [0, 1, 2, 3, 4, 5, 6, 7, 8] (by decide) rfl) (hK.sub (tys' := [(c 21, .long), (c 22, .int), (c 23, .int), (c 24, .int), (c 25, .int), (c 26, .int), (c 27, .int), (c 28, .int)]) [0, 1, 2, 3, 4, 5, 6, 7] rfl) (fun _ _ _ => trivial)⟩ rfl rfl hl.1 rfl (lv_room (Nat.le_of_ble_eq_true rfl)) d_D_formed_110 ⟨Nat.le_of_ble_eq_true rfl, Nat.le_of_ble_eq_true rfl⟩) hP hD hS hA [0, 1, 2, 3, 4, 5, 6, 7, 8] [] [0, 1, 2, 3, 4, 5, 6, 7, 8] rfl rfl (by decide) (by decide) (by decide) (fun _ => rfl) (fun u_30 H locs hw hP hD hS => ?_)
    have eu_30 := hw
    have ok_30 : okL (k9 + 20) u_30 := by rw [eu_30]; exact (ol_comma (by omega) ok_28)
    refine lv_aload_n hx hb d_D_formed_113 rfl (lv_at hl 5 rfl) ?_
    refine zc_i (w2 := fun u9 => wD h c u9) (va_runV (As := []) (rest := []) ⟨hx, hb, hml, hown, ht⟩ (mt_D_operand l D h c H.size u_30 _ (by omega) ok_30) (cwV 0 ht (zgV zw_1142 zw_1144 zs_81 zw_7 zw_1145) rfl rfl rfl kd_D_operand ⟨Nat.le_of_ble_eq_true rfl, Nat.le_of_ble_eq_true rfl⟩) ⟨zw_blind zw_tt, va_recv (hK.sub (tys' := [(c 21, .long), (c 22, .int), (c 23, .int), (c 24, .int), (c 25, .int), (c 26, .int), (c 27, .int), (c 28, .int)]) [0, 1, 2, 3, 4, 5, 6, 7] rfl) (hP.sub (ws' := wD h c u_30) [0, 1, 2, 3, 4, 5, 6, 7, 8] rfl) (ci := 6) (q0 := 0) rfl rfl, zw_go (hP.sub (ws' := wD h c u_30) [0, 1, 2, 3, 4, 5, 6, 7, 8] rfl) (hD.sub (ws' := wD h c u_30) [0, 1, 2, 3, 4, 5, 6, 7, 8] (by decide) rfl) (hK.sub (tys' := [(c 21, .long), (c 22, .int), (c 23, .int), (c 24, .int), (c 25, .int), (c 26, .int), (c 27, .int), (c 28, .int)]) [0, 1, 2, 3, 4, 5, 6, 7] rfl) (fun _ _ _ => trivial)⟩ rfl rfl hl.1 rfl (lv_room (Nat.le_of_ble_eq_true rfl)) d_D_formed_114 ⟨Nat.le_of_ble_eq_true rfl, Nat.le_of_ble_eq_true rfl⟩) hP hD hS hA [0, 1, 2, 3, 4, 5, 6, 7, 8] [] [0, 1, 2, 3, 4, 5, 6, 7, 8] rfl rfl (by decide) (by decide) (by decide) (fun _ => rfl) (fun r_31 u_31 H locs hw hP hD hS => ?_)
    obtain ⟨er_31, eu_31⟩ := hw
    have ok_31 : okL (k9 + 25) u_31 := by rw [eu_31]; exact (ol_operand (by omega) ok_30)
    refine lv_istore (lv' := [(5, .int r_31), (7, .int r_28), (6, .int r_26), (4, .int (p1 &&& (63 : Int32))), (3, .int x_11), (0, .ref (h 20)), (1, .int p0), (2, .int p1)]) hx hb d_D_formed_117 hl (by decide) rfl (fun ls hl => ?_)
    refine lv_iload_n hx hb d_D_formed_119 rfl (lv_at hl 4 rfl) ?_
    refine lv_bipush (v := (30 : Int32)) hx hb d_D_formed_120 (by decide) ?_
    refine lv_ishl hx hb d_D_formed_122 ?_
    refine lv_iload hx hb d_D_formed_123 (lv_at hl 0 rfl) ?_
    refine lv_bipush (v := (25 : Int32)) hx hb d_D_formed_125 (by decide) ?_
    refine lv_ishl hx hb d_D_formed_127 ?_
    refine lv_ior hx hb d_D_formed_128 ?_
    refine lv_iload hx hb d_D_formed_129 (lv_at hl 3 rfl) ?_
    refine lv_bipush (v := (19 : Int32)) hx hb d_D_formed_131 (by decide) ?_
    refine lv_ishl hx hb d_D_formed_133 ?_
    refine lv_ior hx hb d_D_formed_134 ?_
    refine lv_iload hx hb d_D_formed_135 (lv_at hl 2 rfl) ?_
    refine lv_bipush (v := (14 : Int32)) hx hb d_D_formed_137 (by decide) ?_
    refine lv_ishl hx hb d_D_formed_139 ?_
    refine lv_ior hx hb d_D_formed_140 ?_
    refine lv_iload hx hb d_D_formed_141 (lv_at hl 1 rfl) ?_
    refine lv_ior hx hb d_D_formed_143 ?_
    exact zl_i (u := u_31) hx hb hr hlocks hS hP hD (⟨by simp only [m_formed, ← ex_11, ← er_26, ← eu_26, ← eu_27, ← er_28, ← eu_28, ← eu_30, ← er_31, ← eu_31]; try simp only [if_neg c_1, if_neg c_10, if_neg c_14, if_pos c_29], by simp only [m_formed, ← ex_11, ← er_26, ← eu_26, ← eu_27, ← er_28, ← eu_28, ← eu_30, ← er_31, ← eu_31]; try simp only [if_neg c_1, if_neg c_10, if_neg c_14, if_pos c_29]⟩) d_D_formed_144
  refine lv_iconst (v := (2 : Int32)) hx hb d_D_formed_10 (by decide) ?_
  refine lv_goto (tgt := 18) hx hb d_D_formed_11 (by decide) ?_
  refine lv_istore_n (lv' := [(3, .int (2 : Int32)), (0, .ref (h 20)), (1, .int p0), (2, .int p1)]) hx hb d_D_formed_18 rfl hl (by decide) rfl (fun ls hl => ?_)
  refine lv_iload_n hx hb d_D_formed_19 rfl (lv_at hl 2 rfl) ?_
  refine lv_iconst (v := (3 : Int32)) hx hb d_D_formed_20 (by decide) ?_
  refine lv_icmp_ne (tgt := 30) hx hb d_D_formed_21 (by decide) (fun c_32 => absurd c_10 c_32) (fun c_32 => ?_)
  refine lv_iload_n hx hb d_D_formed_24 rfl (lv_at hl 3 rfl) ?_
  refine lv_iconst (v := (5 : Int32)) hx hb d_D_formed_25 (by decide) ?_
  refine lv_ishr hx hb d_D_formed_26 ?_
  refine lv_goto (tgt := 34) hx hb d_D_formed_27 (by decide) ?_
  refine lv_topi (fun x_33 ex_33 => ?_)
  refine lv_istore (lv' := [(4, .int x_33), (3, .int (2 : Int32)), (0, .ref (h 20)), (1, .int p0), (2, .int p1)]) hx hb d_D_formed_34 hl (by decide) rfl (fun ls hl => ?_)
  refine lv_iload_n hx hb d_D_formed_36 rfl (lv_at hl 3 rfl) ?_
  refine lv_iconst (v := (3 : Int32)) hx hb d_D_formed_37 (by decide) ?_
  refine lv_icmp_ne (tgt := 48) hx hb d_D_formed_38 (by decide) (fun c_34 => absurd c_10 c_34) (fun c_34 => ?_)
  refine lv_iload_n hx hb d_D_formed_41 rfl (lv_at hl 4 rfl) ?_
  refine lv_bipush (v := (31 : Int32)) hx hb d_D_formed_42 (by decide) ?_
  refine lv_iand hx hb d_D_formed_44 ?_
  refine lv_goto (tgt := 49) hx hb d_D_formed_45 (by decide) ?_
  refine lv_istore (lv' := [(5, .int (p1 &&& (31 : Int32))), (4, .int x_33), (3, .int (2 : Int32)), (0, .ref (h 20)), (1, .int p0), (2, .int p1)]) hx hb d_D_formed_49 hl (by decide) rfl (fun ls hl => ?_)
  refine lv_iconst (v := (0 : Int32)) hx hb d_D_formed_51 (by decide) ?_
  refine lv_istore (lv' := [(6, .int (0 : Int32)), (5, .int (p1 &&& (31 : Int32))), (4, .int x_33), (3, .int (2 : Int32)), (0, .ref (h 20)), (1, .int p0), (2, .int p1)]) hx hb d_D_formed_52 hl (by decide) rfl (fun ls hl => ?_)
  refine lv_iconst (v := (0 : Int32)) hx hb d_D_formed_54 (by decide) ?_
  refine lv_istore (lv' := [(7, .int (0 : Int32)), (6, .int (0 : Int32)), (5, .int (p1 &&& (31 : Int32))), (4, .int x_33), (3, .int (2 : Int32)), (0, .ref (h 20)), (1, .int p0), (2, .int p1)]) hx hb d_D_formed_55 hl (by decide) rfl (fun ls hl => ?_)
  refine lv_iload_n hx hb d_D_formed_57 rfl (lv_at hl 6 rfl) ?_
  refine lv_bipush (v := (6 : Int32)) hx hb d_D_formed_58 (by decide) ?_
  refine lv_icmp_eq (tgt := 68) hx hb d_D_formed_60 (by decide) (fun c_35 => absurd c_35 (fun z9 => absurd (c_10.symm.trans z9) (by decide))) (fun c_35 => ?_)
  refine lv_iload_n hx hb d_D_formed_63 rfl (lv_at hl 6 rfl) ?_
  refine lv_iconst (v := (2 : Int32)) hx hb d_D_formed_64 (by decide) ?_
  refine lv_icmp_ne (tgt := 74) hx hb d_D_formed_65 (by decide) (fun c_36 => ?_) (fun c_36 => absurd c_36 c_1)
  refine lv_iload_n hx hb d_D_formed_74 rfl (lv_at hl 6 rfl) ?_
  refine lv_bipush (v := (6 : Int32)) hx hb d_D_formed_75 (by decide) ?_
  refine lv_icmp_ne (tgt := 84) hx hb d_D_formed_77 (by decide) (fun c_37 => ?_) (fun c_37 => absurd c_37 (fun z9 => absurd (c_10.symm.trans z9) (by decide)))
  refine lv_iload_n hx hb d_D_formed_84 rfl (lv_at hl 6 rfl) ?_
  refine lv_iconst (v := (2 : Int32)) hx hb d_D_formed_85 (by decide) ?_
  refine lv_icmp_eq (tgt := 105) hx hb d_D_formed_86 (by decide) (fun c_38 => absurd c_38 c_1) (fun c_38 => ?_)
  refine lv_aload_n hx hb d_D_formed_89 rfl (lv_at hl 5 rfl) ?_
  refine zc_i (w2 := fun u9 => wD h c u9) (va_runV (As := []) (rest := []) ⟨hx, hb, hml, hown, ht⟩ (mt_D_operand l D h c H.size st _ (by omega) hL) (cwV 0 ht (zgV zw_1142 zw_1144 zs_81 zw_7 zw_1145) rfl rfl rfl kd_D_operand ⟨Nat.le_of_ble_eq_true rfl, Nat.le_of_ble_eq_true rfl⟩) ⟨zw_blind zw_tt, va_recv (hK.sub (tys' := [(c 21, .long), (c 22, .int), (c 23, .int), (c 24, .int), (c 25, .int), (c 26, .int), (c 27, .int), (c 28, .int)]) [0, 1, 2, 3, 4, 5, 6, 7] rfl) (hP.sub (ws' := wD h c st) [0, 1, 2, 3, 4, 5, 6, 7, 8] rfl) (ci := 6) (q0 := 0) rfl rfl, zw_go (hP.sub (ws' := wD h c st) [0, 1, 2, 3, 4, 5, 6, 7, 8] rfl) (hD.sub (ws' := wD h c st) [0, 1, 2, 3, 4, 5, 6, 7, 8] (by decide) rfl) (hK.sub (tys' := [(c 21, .long), (c 22, .int), (c 23, .int), (c 24, .int), (c 25, .int), (c 26, .int), (c 27, .int), (c 28, .int)]) [0, 1, 2, 3, 4, 5, 6, 7] rfl) (fun _ _ _ => trivial)⟩ rfl rfl hl.1 rfl (lv_room (Nat.le_of_ble_eq_true rfl)) d_D_formed_90 ⟨Nat.le_of_ble_eq_true rfl, Nat.le_of_ble_eq_true rfl⟩) hP hD hS hA [0, 1, 2, 3, 4, 5, 6, 7, 8] [] [0, 1, 2, 3, 4, 5, 6, 7, 8] rfl rfl (by decide) (by decide) (by decide) (fun _ => rfl) (fun r_39 u_39 H locs hw hP hD hS => ?_)
  obtain ⟨er_39, eu_39⟩ := hw
  have ok_39 : okL (k9 + 5) u_39 := by rw [eu_39]; exact (ol_operand (by omega) hL)
  refine lv_istore (lv' := [(6, .int r_39), (7, .int (0 : Int32)), (5, .int (p1 &&& (31 : Int32))), (4, .int x_33), (3, .int (2 : Int32)), (0, .ref (h 20)), (1, .int p0), (2, .int p1)]) hx hb d_D_formed_93 hl (by decide) rfl (fun ls hl => ?_)
  refine lv_aload_n hx hb d_D_formed_95 rfl (lv_at hl 5 rfl) ?_
  refine zc_v (w2 := fun u9 => wD h c u9) (va_runV (As := []) (rest := []) ⟨hx, hb, hml, hown, ht⟩ (mt_D_comma l D h c H.size u_39 _ (by omega) ok_39) (cwV 0 ht (zgV zw_1138 zw_1140 zs_80 zw_7 zw_1141) rfl rfl rfl kd_D_comma ⟨Nat.le_of_ble_eq_true rfl, Nat.le_of_ble_eq_true rfl⟩) ⟨zw_blind zw_tt, va_recv (hK.sub (tys' := [(c 21, .long), (c 22, .int), (c 23, .int), (c 24, .int), (c 25, .int), (c 26, .int), (c 27, .int), (c 28, .int)]) [0, 1, 2, 3, 4, 5, 6, 7] rfl) (hP.sub (ws' := wD h c u_39) [0, 1, 2, 3, 4, 5, 6, 7, 8] rfl) (ci := 6) (q0 := 0) rfl rfl, zw_go (hP.sub (ws' := wD h c u_39) [0, 1, 2, 3, 4, 5, 6, 7, 8] rfl) (hD.sub (ws' := wD h c u_39) [0, 1, 2, 3, 4, 5, 6, 7, 8] (by decide) rfl) (hK.sub (tys' := [(c 21, .long), (c 22, .int), (c 23, .int), (c 24, .int), (c 25, .int), (c 26, .int), (c 27, .int), (c 28, .int)]) [0, 1, 2, 3, 4, 5, 6, 7] rfl) (fun _ _ _ => trivial)⟩ rfl rfl hl.1 rfl (lv_room (Nat.le_of_ble_eq_true rfl)) d_D_formed_96 ⟨Nat.le_of_ble_eq_true rfl, Nat.le_of_ble_eq_true rfl⟩) hP hD hS hA [0, 1, 2, 3, 4, 5, 6, 7, 8] [] [0, 1, 2, 3, 4, 5, 6, 7, 8] rfl rfl (by decide) (by decide) (by decide) (fun _ => rfl) (fun u_40 H locs hw hP hD hS => ?_)
  have eu_40 := hw
  have ok_40 : okL (k9 + 6) u_40 := by rw [eu_40]; exact (ol_comma (by omega) ok_39)
  refine lv_aload_n hx hb d_D_formed_99 rfl (lv_at hl 5 rfl) ?_
  refine zc_i (w2 := fun u9 => wD h c u9) (va_runV (As := []) (rest := []) ⟨hx, hb, hml, hown, ht⟩ (mt_D_last l D h c H.size u_40 _ (by omega) ok_40) (cwV 0 ht (zgV zw_1167 zw_1169 zs_85 zw_7 zw_1170) rfl rfl rfl kd_D_last ⟨Nat.le_of_ble_eq_true rfl, Nat.le_of_ble_eq_true rfl⟩) ⟨zw_blind zw_tt, va_recv (hK.sub (tys' := [(c 21, .long), (c 22, .int), (c 23, .int), (c 24, .int), (c 25, .int), (c 26, .int), (c 27, .int), (c 28, .int)]) [0, 1, 2, 3, 4, 5, 6, 7] rfl) (hP.sub (ws' := wD h c u_40) [0, 1, 2, 3, 4, 5, 6, 7, 8] rfl) (ci := 6) (q0 := 0) rfl rfl, zw_go (hP.sub (ws' := wD h c u_40) [0, 1, 2, 3, 4, 5, 6, 7, 8] rfl) (hD.sub (ws' := wD h c u_40) [0, 1, 2, 3, 4, 5, 6, 7, 8] (by decide) rfl) (hK.sub (tys' := [(c 21, .long), (c 22, .int), (c 23, .int), (c 24, .int), (c 25, .int), (c 26, .int), (c 27, .int), (c 28, .int)]) [0, 1, 2, 3, 4, 5, 6, 7] rfl) (fun _ _ _ => trivial)⟩ rfl rfl hl.1 rfl (lv_room (Nat.le_of_ble_eq_true rfl)) d_D_formed_100 ⟨Nat.le_of_ble_eq_true rfl, Nat.le_of_ble_eq_true rfl⟩) hP hD hS hA [0, 1, 2, 3, 4, 5, 6, 7, 8] [] [0, 1, 2, 3, 4, 5, 6, 7, 8] rfl rfl (by decide) (by decide) (by decide) (fun _ => rfl) (fun r_41 u_41 H locs hw hP hD hS => ?_)
  obtain ⟨er_41, eu_41⟩ := hw
  have ok_41 : okL (k9 + 19) u_41 := by rw [eu_41]; exact (ol_last (by omega) ok_40)
  refine lv_istore (lv' := [(7, .int r_41), (6, .int r_39), (5, .int (p1 &&& (31 : Int32))), (4, .int x_33), (3, .int (2 : Int32)), (0, .ref (h 20)), (1, .int p0), (2, .int p1)]) hx hb d_D_formed_103 hl (by decide) rfl (fun ls hl => ?_)
  refine lv_iload_n hx hb d_D_formed_105 rfl (lv_at hl 6 rfl) ?_
  refine lv_if_ne (tgt := 119) hx hb d_D_formed_106 (by decide) (fun c_42 => ?_) (fun c_42 => absurd c_42 (fun z9 => absurd (c_10.symm.trans z9) (by decide)))
  refine lv_iload_n hx hb d_D_formed_119 rfl (lv_at hl 4 rfl) ?_
  refine lv_bipush (v := (30 : Int32)) hx hb d_D_formed_120 (by decide) ?_
  refine lv_ishl hx hb d_D_formed_122 ?_
  refine lv_iload hx hb d_D_formed_123 (lv_at hl 2 rfl) ?_
  refine lv_bipush (v := (25 : Int32)) hx hb d_D_formed_125 (by decide) ?_
  refine lv_ishl hx hb d_D_formed_127 ?_
  refine lv_ior hx hb d_D_formed_128 ?_
  refine lv_iload hx hb d_D_formed_129 (lv_at hl 3 rfl) ?_
  refine lv_bipush (v := (19 : Int32)) hx hb d_D_formed_131 (by decide) ?_
  refine lv_ishl hx hb d_D_formed_133 ?_
  refine lv_ior hx hb d_D_formed_134 ?_
  refine lv_iload hx hb d_D_formed_135 (lv_at hl 1 rfl) ?_
  refine lv_bipush (v := (14 : Int32)) hx hb d_D_formed_137 (by decide) ?_
  refine lv_ishl hx hb d_D_formed_139 ?_
  refine lv_ior hx hb d_D_formed_140 ?_
  refine lv_iload hx hb d_D_formed_141 (lv_at hl 0 rfl) ?_
  refine lv_ior hx hb d_D_formed_143 ?_
  exact zl_i (u := u_41) hx hb hr hlocks hS hP hD (⟨by simp only [m_formed, ← ex_33, ← er_39, ← eu_39, ← eu_40, ← er_41, ← eu_41]; try simp only [if_neg c_1, if_pos c_10], by simp only [m_formed, ← ex_33, ← er_39, ← eu_39, ← eu_40, ← er_41, ← eu_41]; try simp only [if_neg c_1, if_pos c_10]⟩) d_D_formed_144
