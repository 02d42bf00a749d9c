theorem d_D_formed_0 : decode c_D_formed 0 = .ok (.iload_n 1, 1) := by decide +kernel
theorem d_D_formed_1 : decode c_D_formed 1 = .ok (.iconst 2, 1) := by decide +kernel
theorem d_D_formed_2 : decode c_D_formed 2 = .ok (.if_icmp .eq 8, 3) := by decide +kernel
theorem d_D_formed_5 : decode c_D_formed 5 = .ok (.iload_n 1, 1) := by decide +kernel
theorem d_D_formed_6 : decode c_D_formed 6 = .ok (.iconst 3, 1) := by decide +kernel
theorem d_D_formed_7 : decode c_D_formed 7 = .ok (.if_icmp .ne 7, 3) := by decide +kernel
theorem d_D_formed_10 : decode c_D_formed 10 = .ok (.iconst 2, 1) := by decide +kernel
theorem d_D_formed_11 : decode c_D_formed 11 = .ok (.goto 7, 3) := by decide +kernel
theorem d_D_formed_14 : decode c_D_formed 14 = .ok (.iload_n 2, 1) := by decide +kernel
theorem d_D_formed_15 : decode c_D_formed 15 = .ok (.bipush 6, 2) := by decide +kernel
theorem d_D_formed_17 : decode c_D_formed 17 = .ok (.ishr, 1) := by decide +kernel
theorem d_D_formed_18 : decode c_D_formed 18 = .ok (.istore_n 3, 1) := by decide +kernel
theorem d_D_formed_19 : decode c_D_formed 19 = .ok (.iload_n 1, 1) := by decide +kernel
theorem d_D_formed_20 : decode c_D_formed 20 = .ok (.iconst 3, 1) := by decide +kernel
theorem d_D_formed_21 : decode c_D_formed 21 = .ok (.if_icmp .ne 9, 3) := by decide +kernel
theorem d_D_formed_24 : decode c_D_formed 24 = .ok (.iload_n 2, 1) := by decide +kernel
theorem d_D_formed_25 : decode c_D_formed 25 = .ok (.iconst 5, 1) := by decide +kernel
theorem d_D_formed_26 : decode c_D_formed 26 = .ok (.ishr, 1) := by decide +kernel
theorem d_D_formed_27 : decode c_D_formed 27 = .ok (.goto 7, 3) := by decide +kernel
theorem d_D_formed_30 : decode c_D_formed 30 = .ok (.iload_n 2, 1) := by decide +kernel
theorem d_D_formed_31 : decode c_D_formed 31 = .ok (.bipush 63, 2) := by decide +kernel
theorem d_D_formed_33 : decode c_D_formed 33 = .ok (.iand, 1) := by decide +kernel
theorem d_D_formed_34 : decode c_D_formed 34 = .ok (.istore 4, 2) := by decide +kernel
theorem d_D_formed_36 : decode c_D_formed 36 = .ok (.iload_n 1, 1) := by decide +kernel
theorem d_D_formed_37 : decode c_D_formed 37 = .ok (.iconst 3, 1) := by decide +kernel
theorem d_D_formed_38 : decode c_D_formed 38 = .ok (.if_icmp .ne 10, 3) := by decide +kernel
theorem d_D_formed_41 : decode c_D_formed 41 = .ok (.iload_n 2, 1) := by decide +kernel
theorem d_D_formed_42 : decode c_D_formed 42 = .ok (.bipush 31, 2) := by decide +kernel
theorem d_D_formed_44 : decode c_D_formed 44 = .ok (.iand, 1) := by decide +kernel
theorem d_D_formed_45 : decode c_D_formed 45 = .ok (.goto 4, 3) := by decide +kernel
theorem d_D_formed_48 : decode c_D_formed 48 = .ok (.iconst 0, 1) := by decide +kernel
theorem d_D_formed_49 : decode c_D_formed 49 = .ok (.istore 5, 2) := by decide +kernel
theorem d_D_formed_51 : decode c_D_formed 51 = .ok (.iconst 0, 1) := by decide +kernel
theorem d_D_formed_52 : decode c_D_formed 52 = .ok (.istore 6, 2) := by decide +kernel
theorem d_D_formed_54 : decode c_D_formed 54 = .ok (.iconst 0, 1) := by decide +kernel
theorem d_D_formed_55 : decode c_D_formed 55 = .ok (.istore 7, 2) := by decide +kernel
theorem d_D_formed_57 : decode c_D_formed 57 = .ok (.iload_n 1, 1) := by decide +kernel
theorem d_D_formed_58 : decode c_D_formed 58 = .ok (.bipush 6, 2) := by decide +kernel
theorem d_D_formed_60 : decode c_D_formed 60 = .ok (.if_icmp .eq 8, 3) := by decide +kernel
theorem d_D_formed_63 : decode c_D_formed 63 = .ok (.iload_n 1, 1) := by decide +kernel
theorem d_D_formed_64 : decode c_D_formed 64 = .ok (.iconst 2, 1) := by decide +kernel
theorem d_D_formed_65 : decode c_D_formed 65 = .ok (.if_icmp .ne 9, 3) := by decide +kernel
theorem d_D_formed_68 : decode c_D_formed 68 = .ok (.aload_n 0, 1) := by decide +kernel
theorem d_D_formed_69 : decode c_D_formed 69 = .ok (.invokevirtual 449, 3) := by decide +kernel
theorem d_D_formed_72 : decode c_D_formed 72 = .ok (.istore 5, 2) := by decide +kernel
theorem d_D_formed_74 : decode c_D_formed 74 = .ok (.iload_n 1, 1) := by decide +kernel
theorem d_D_formed_75 : decode c_D_formed 75 = .ok (.bipush 6, 2) := by decide +kernel
theorem d_D_formed_77 : decode c_D_formed 77 = .ok (.if_icmp .ne 7, 3) := by decide +kernel
theorem d_D_formed_80 : decode c_D_formed 80 = .ok (.aload_n 0, 1) := by decide +kernel
theorem d_D_formed_81 : decode c_D_formed 81 = .ok (.invokevirtual 452, 3) := by decide +kernel
theorem d_D_formed_84 : decode c_D_formed 84 = .ok (.iload_n 1, 1) := by decide +kernel
theorem d_D_formed_85 : decode c_D_formed 85 = .ok (.iconst 2, 1) := by decide +kernel
theorem d_D_formed_86 : decode c_D_formed 86 = .ok (.if_icmp .eq 19, 3) := by decide +kernel
theorem d_D_formed_89 : decode c_D_formed 89 = .ok (.aload_n 0, 1) := by decide +kernel
theorem d_D_formed_90 : decode c_D_formed 90 = .ok (.invokevirtual 449, 3) := by decide +kernel
theorem d_D_formed_93 : decode c_D_formed 93 = .ok (.istore 6, 2) := by decide +kernel
theorem d_D_formed_95 : decode c_D_formed 95 = .ok (.aload_n 0, 1) := by decide +kernel
theorem d_D_formed_96 : decode c_D_formed 96 = .ok (.invokevirtual 452, 3) := by decide +kernel
theorem d_D_formed_99 : decode c_D_formed 99 = .ok (.aload_n 0, 1) := by decide +kernel
theorem d_D_formed_100 : decode c_D_formed 100 = .ok (.invokevirtual 455, 3) := by decide +kernel
theorem d_D_formed_103 : decode c_D_formed 103 = .ok (.istore 7, 2) := by decide +kernel
theorem d_D_formed_105 : decode c_D_formed 105 = .ok (.iload_n 1, 1) := by decide +kernel
theorem d_D_formed_106 : decode c_D_formed 106 = .ok (.ifCond .ne 13, 3) := by decide +kernel
theorem d_D_formed_109 : decode c_D_formed 109 = .ok (.aload_n 0, 1) := by decide +kernel
theorem d_D_formed_110 : decode c_D_formed 110 = .ok (.invokevirtual 452, 3) := by decide +kernel
theorem d_D_formed_113 : decode c_D_formed 113 = .ok (.aload_n 0, 1) := by decide +kernel
theorem d_D_formed_114 : decode c_D_formed 114 = .ok (.invokevirtual 449, 3) := by decide +kernel
theorem d_D_formed_117 : decode c_D_formed 117 = .ok (.istore 5, 2) := by decide +kernel
theorem d_D_formed_119 : decode c_D_formed 119 = .ok (.iload_n 3, 1) := by decide +kernel
theorem d_D_formed_120 : decode c_D_formed 120 = .ok (.bipush 30, 2) := by decide +kernel
theorem d_D_formed_122 : decode c_D_formed 122 = .ok (.ishl, 1) := by decide +kernel
theorem d_D_formed_123 : decode c_D_formed 123 = .ok (.iload 5, 2) := by decide +kernel
theorem d_D_formed_125 : decode c_D_formed 125 = .ok (.bipush 25, 2) := by decide +kernel
theorem d_D_formed_127 : decode c_D_formed 127 = .ok (.ishl, 1) := by decide +kernel
theorem d_D_formed_128 : decode c_D_formed 128 = .ok (.ior, 1) := by decide +kernel
theorem d_D_formed_129 : decode c_D_formed 129 = .ok (.iload 4, 2) := by decide +kernel
theorem d_D_formed_131 : decode c_D_formed 131 = .ok (.bipush 19, 2) := by decide +kernel
theorem d_D_formed_133 : decode c_D_formed 133 = .ok (.ishl, 1) := by decide +kernel
theorem d_D_formed_134 : decode c_D_formed 134 = .ok (.ior, 1) := by decide +kernel
theorem d_D_formed_135 : decode c_D_formed 135 = .ok (.iload 6, 2) := by decide +kernel
theorem d_D_formed_137 : decode c_D_formed 137 = .ok (.bipush 14, 2) := by decide +kernel
theorem d_D_formed_139 : decode c_D_formed 139 = .ok (.ishl, 1) := by decide +kernel
theorem d_D_formed_140 : decode c_D_formed 140 = .ok (.ior, 1) := by decide +kernel
theorem d_D_formed_141 : decode c_D_formed 141 = .ok (.iload 7, 2) := by decide +kernel
theorem d_D_formed_143 : decode c_D_formed 143 = .ok (.ior, 1) := by decide +kernel
theorem d_D_formed_144 : decode c_D_formed 144 = .ok (.ireturn, 1) := by decide +kernel
theorem kd_D_formed : (y_D_formed).cls = "WindowMachineModel" ∧ (y_D_formed).cls ≠ "java/lang/invoke/MethodHandle" ∧ (y_D_formed).cls ≠ "java/lang/invoke/VarHandle" ∧ (parseMethodDescriptor (y_D_formed).desc).map (fun d => d.parameters.length) = some 2 := by decide +kernel
def m_formed (st : SD) (p0 : Int32) (p1 : Int32) : Int32 × SD := (let x_1 := (if p0 = (2 : Int32) then (2 : Int32) else (if p0 = (3 : Int32) then (2 : Int32) else p1 >>> ((6 : Int32) &&& 31))); (let x_5 := (if p0 = (3 : Int32) then p1 >>> ((5 : Int32) &&& 31) else p1 &&& (63 : Int32)); (let x_8 := (if p0 = (3 : Int32) then p1 &&& (31 : Int32) else (0 : Int32)); (let x_11 := (if p0 = (6 : Int32) then (m_operand st).1 else (if p0 = (2 : Int32) then (m_operand st).1 else x_8)); (let u_12 := (if p0 = (6 : Int32) then (m_operand st).2 else (if p0 = (2 : Int32) then (m_operand st).2 else st)); (let u_18 := (if p0 = (6 : Int32) then m_comma u_12 else u_12); (let x_22 := (if p0 = (2 : Int32) then (0 : Int32) else (m_operand u_18).1); (let x_23 := (if p0 = (2 : Int32) then (0 : Int32) else (m_last (m_comma ((m_operand u_18).2))).1); (let u_24 := (if p0 = (2 : Int32) then u_18 else (m_last (m_comma ((m_operand u_18).2))).2); (let x_30 := (if p0 = (0 : Int32) then (m_operand (m_comma u_24)).1 else x_11); (let u_31 := (if p0 = (0 : Int32) then (m_operand (m_comma u_24)).2 else u_24); (((((x_1 <<< ((30 : Int32) &&& 31)) ||| (x_30 <<< ((25 : Int32) &&& 31))) ||| (x_5 <<< ((19 : Int32) &&& 31))) ||| (x_22 <<< ((14 : Int32) &&& 31))) ||| x_23, u_31))))))))))))
set_option maxHeartbeats 4000000 in
set_option maxRecDepth 100000 in
theorem mt_D_formed (l : Launch) (D : va_G) (h : Nat → Nat) (c : Nat → ClassId) (sz : Nat) (st : SD) (p0 : Int32) (p1 : Int32) (k9 : Nat) (hk : k9 < 500) (hL : okL k9 st) : Met l y_D_formed w_D_formed ({ frames := 5, cells := 0, slots := 0, locals := 114 }) (va_Pc [.ref (h 20), .int p0, .int p1] (zw_pre D vwCl [(c 21, .long), (c 22, .int), (c 23, .int), (c 24, .int), (c 25, .int), (c 26, .int), (c 27, .int), (c 28, .int)] sz (wD h c st) (fun _ => True))) (va_Qi (fun r (u : SD) => r = (m_formed st p0 p1).1 ∧ u = (m_formed st p0 p1).2) (fun u t => zw_at D vwCl (va_A (wD h c st) sz) ((fun (u : SD) => wD h c u) u) t) (va_A (wD h c st) sz)) 0 0 (va_A (wD h c st) sz) := by
  refine zm (Qf := fun A => va_Qi (fun r (u : SD) => r = (m_formed st p0 p1).1 ∧ u = (m_formed st p0 p1).2) (fun u t => zw_at D vwCl A ((fun (u : SD) => wD h c u) u) t) A) (Zf := fun _ _ => True) (cc := c_D_formed) (nL := 8) (ret := (some .int)) (by decide) rfl (Nat.le_of_ble_eq_true rfl) ?_
  intro p e s m below meth c9 A H locs ls hx hb hml hown hts hr hlocks hA hK hP hD hS hZ hl
  have hl : lv_has ls 8 [(0, .ref (h 20)), (1, .int p0), (2, .int p1)] := hl
  have ht : ∀ w9 ∈ zT, w9.before _ s = true := fun w9 h9 => hts w9 (List.mem_cons_of_mem _ h9)
  refine lv_iload_n hx hb d_D_formed_0 rfl (lv_at hl 1 rfl) ?_
  refine lv_iconst (v := (2 : Int32)) hx hb d_D_formed_1 (by decide) ?_
  refine zcut (X := Int32) (G := fun v9 H locs ls => v9 = (if p0 = (2 : Int32) then (2 : Int32) else (if p0 = (3 : Int32) then (2 : Int32) else p1 >>> ((6 : Int32) &&& 31))) ∧ va_P D vwCl (wD h c st) H ∧ va_D A (wD h c st) ∧ va_S A s.heap H locs ∧ lv_has ls 8 [(0, .ref (h 20)), (1, .int p0), (2, .int p1)]) (fr := fun v9 ls => F0 m 18 ls [.int v9]) (fun J_2 => ?_) (fun v9 H locs ls hG => ?_)
  · refine lv_icmp_eq (tgt := 10) hx hb d_D_formed_2 (by decide) (fun c_3 => ?_) (fun c_3 => ?_)
    · refine lv_iconst (v := (2 : Int32)) hx hb d_D_formed_10 (by decide) ?_
      refine lv_goto (tgt := 18) hx hb d_D_formed_11 (by decide) ?_
      exact J_2 (2 : Int32) _ _ _ ⟨by simp only [if_pos c_3], hP, hD, hS, hl⟩
    refine lv_iload_n hx hb d_D_formed_5 rfl (lv_at hl 1 rfl) ?_
    refine lv_iconst (v := (3 : Int32)) hx hb d_D_formed_6 (by decide) ?_
    refine lv_icmp_ne (tgt := 14) hx hb d_D_formed_7 (by decide) (fun c_4 => ?_) (fun c_4 => ?_)
    · refine lv_iload_n hx hb d_D_formed_14 rfl (lv_at hl 2 rfl) ?_
      refine lv_bipush (v := (6 : Int32)) hx hb d_D_formed_15 (by decide) ?_
      refine lv_ishr hx hb d_D_formed_17 ?_
      exact J_2 (p1 >>> ((6 : Int32) &&& 31)) _ _ _ ⟨by simp only [if_neg c_3, if_neg c_4], hP, hD, hS, hl⟩
    refine lv_iconst (v := (2 : Int32)) hx hb d_D_formed_10 (by decide) ?_
    refine lv_goto (tgt := 18) hx hb d_D_formed_11 (by decide) ?_
    exact J_2 (2 : Int32) _ _ _ ⟨by simp only [if_neg c_3, if_pos c_4], hP, hD, hS, hl⟩
  obtain ⟨x_1, rfl⟩ : ∃ z, z = v9 := ⟨_, rfl⟩
  obtain ⟨ex_1, hP, hD, hS, hl⟩ := hG
  refine lv_istore_n (lv' := [(3, .int x_1), (0, .ref (h 20)), (1, .int p0), (2, .int p1)]) hx hb d_D_formed_18 rfl hl (by decide) rfl (fun ls hl => ?_)
  refine lv_iload_n hx hb d_D_formed_19 rfl (lv_at hl 2 rfl) ?_
  refine lv_iconst (v := (3 : Int32)) hx hb d_D_formed_20 (by decide) ?_
  refine zcut (X := Int32) (G := fun v9 H locs ls => v9 = (if p0 = (3 : Int32) then p1 >>> ((5 : Int32) &&& 31) else p1 &&& (63 : Int32)) ∧ va_P D vwCl (wD h c st) H ∧ va_D A (wD h c st) ∧ va_S A s.heap H locs ∧ lv_has ls 8 [(0, .ref (h 20)), (1, .int p0), (2, .int p1), (3, .int x_1)]) (fr := fun v9 ls => F0 m 34 ls [.int v9]) (fun J_6 => ?_) (fun v9 H locs ls hG => ?_)
  · refine lv_icmp_ne (tgt := 30) hx hb d_D_formed_21 (by decide) (fun c_7 => ?_) (fun c_7 => ?_)
    · refine lv_iload_n hx hb d_D_formed_30 rfl (lv_at hl 3 rfl) ?_
      refine lv_bipush (v := (63 : Int32)) hx hb d_D_formed_31 (by decide) ?_
      refine lv_iand hx hb d_D_formed_33 ?_
      exact J_6 (p1 &&& (63 : Int32)) _ _ _ ⟨by simp only [if_neg c_7], hP, hD, hS, (lv_sub hl [1, 2, 3, 0] rfl)⟩
    refine lv_iload_n hx hb d_D_formed_24 rfl (lv_at hl 3 rfl) ?_
    refine lv_iconst (v := (5 : Int32)) hx hb d_D_formed_25 (by decide) ?_
    refine lv_ishr hx hb d_D_formed_26 ?_
    refine lv_goto (tgt := 34) hx hb d_D_formed_27 (by decide) ?_
    exact J_6 (p1 >>> ((5 : Int32) &&& 31)) _ _ _ ⟨by simp only [if_pos c_7], hP, hD, hS, (lv_sub hl [1, 2, 3, 0] rfl)⟩
  obtain ⟨x_5, rfl⟩ : ∃ z, z = v9 := ⟨_, rfl⟩
  obtain ⟨ex_5, hP, hD, hS, hl⟩ := hG
  refine lv_istore (lv' := [(4, .int x_5), (0, .ref (h 20)), (1, .int p0), (2, .int p1), (3, .int x_1)]) hx hb d_D_formed_34 hl (by decide) rfl (fun ls hl => ?_)
  refine lv_iload_n hx hb d_D_formed_36 rfl (lv_at hl 2 rfl) ?_
  refine lv_iconst (v := (3 : Int32)) hx hb d_D_formed_37 (by decide) ?_
  refine zcut (X := Int32) (G := fun v9 H locs ls => v9 = (if p0 = (3 : Int32) then p1 &&& (31 : Int32) else (0 : Int32)) ∧ va_P D vwCl (wD h c st) H ∧ va_D A (wD h c st) ∧ va_S A s.heap H locs ∧ lv_has ls 8 [(0, .ref (h 20)), (1, .int p0), (2, .int p1), (3, .int x_1), (4, .int x_5)]) (fr := fun v9 ls => F0 m 49 ls [.int v9]) (fun J_9 => ?_) (fun v9 H locs ls hG => ?_)
  · refine lv_icmp_ne (tgt := 48) hx hb d_D_formed_38 (by decide) (fun c_10 => ?_) (fun c_10 => ?_)
    · refine lv_iconst (v := (0 : Int32)) hx hb d_D_formed_48 (by decide) ?_
      exact J_9 (0 : Int32) _ _ _ ⟨by simp only [if_neg c_10], hP, hD, hS, (lv_sub hl [1, 2, 3, 4, 0] rfl)⟩
    refine lv_iload_n hx hb d_D_formed_41 rfl (lv_at hl 3 rfl) ?_
    refine lv_bipush (v := (31 : Int32)) hx hb d_D_formed_42 (by decide) ?_
    refine lv_iand hx hb d_D_formed_44 ?_
    refine lv_goto (tgt := 49) hx hb d_D_formed_45 (by decide) ?_
    exact J_9 (p1 &&& (31 : Int32)) _ _ _ ⟨by simp only [if_pos c_10], hP, hD, hS, (lv_sub hl [1, 2, 3, 4, 0] rfl)⟩
  obtain ⟨x_8, rfl⟩ : ∃ z, z = v9 := ⟨_, rfl⟩
  obtain ⟨ex_8, hP, hD, hS, hl⟩ := hG
  refine lv_istore (lv' := [(5, .int x_8), (0, .ref (h 20)), (1, .int p0), (2, .int p1), (3, .int x_1), (4, .int x_5)]) hx hb d_D_formed_49 hl (by decide) rfl (fun ls hl => ?_)
  refine lv_iconst (v := (0 : Int32)) hx hb d_D_formed_51 (by decide) ?_
  refine lv_istore (lv' := [(6, .int (0 : Int32)), (5, .int x_8), (0, .ref (h 20)), (1, .int p0), (2, .int p1), (3, .int x_1), (4, .int x_5)]) hx hb d_D_formed_52 hl (by decide) rfl (fun ls hl => ?_)
  refine lv_iconst (v := (0 : Int32)) hx hb d_D_formed_54 (by decide) ?_
  refine lv_istore (lv' := [(7, .int (0 : Int32)), (6, .int (0 : Int32)), (5, .int x_8), (0, .ref (h 20)), (1, .int p0), (2, .int p1), (3, .int x_1), (4, .int x_5)]) hx hb d_D_formed_55 hl (by decide) rfl (fun ls hl => ?_)
  refine lv_iload_n hx hb d_D_formed_57 rfl (lv_at hl 4 rfl) ?_
  refine lv_bipush (v := (6 : Int32)) hx hb d_D_formed_58 (by decide) ?_
  refine zcut (X := Int32 × SD) (G := fun v9 H locs ls => v9.1 = (if p0 = (6 : Int32) then (m_operand st).1 else (if p0 = (2 : Int32) then (m_operand st).1 else x_8)) ∧ v9.2 = (if p0 = (6 : Int32) then (m_operand st).2 else (if p0 = (2 : Int32) then (m_operand st).2 else st)) ∧ va_P D vwCl (wD h c v9.2) H ∧ va_D A (wD h c v9.2) ∧ va_S A s.heap H locs ∧ lv_has ls 8 [(0, .ref (h 20)), (1, .int p0), (2, .int p1), (3, .int x_1), (4, .int x_5), (5, .int v9.1), (6, .int (0 : Int32)), (7, .int (0 : Int32))]) (fr := fun v9 ls => F0 m 74 ls []) (fun J_13 => ?_) (fun v9 H locs ls hG => ?_)
  · refine lv_icmp_eq (tgt := 68) hx hb d_D_formed_60 (by decide) (fun c_14 => ?_) (fun c_14 => ?_)
    · refine lv_aload_n hx hb d_D_formed_68 rfl (lv_at hl 3 rfl) ?_
      refine zc_iwE (w2 := fun u9 => wD h c u9) (va_runV (As := []) (rest := []) ⟨hx, hb, hml, hown, ht⟩ (mt_D_operand l D h c H.size st _ (by omega) hL) (cwV 0 ht (zgV zw_1142 zw_1144 zs_81 zw_7 zw_1145) rfl rfl rfl kd_D_operand ⟨Nat.le_of_ble_eq_true rfl, Nat.le_of_ble_eq_true rfl⟩) ⟨zw_blind zw_tt, va_recv (hK.sub (tys' := [(c 21, .long), (c 22, .int), (c 23, .int), (c 24, .int), (c 25, .int), (c 26, .int), (c 27, .int), (c 28, .int)]) [0, 1, 2, 3, 4, 5, 6, 7] rfl) (hP.sub (ws' := wD h c st) [0, 1, 2, 3, 4, 5, 6, 7, 8] rfl) (ci := 6) (q0 := 0) rfl rfl, zw_go (hP.sub (ws' := wD h c st) [0, 1, 2, 3, 4, 5, 6, 7, 8] rfl) (hD.sub (ws' := wD h c st) [0, 1, 2, 3, 4, 5, 6, 7, 8] (by decide) rfl) (hK.sub (tys' := [(c 21, .long), (c 22, .int), (c 23, .int), (c 24, .int), (c 25, .int), (c 26, .int), (c 27, .int), (c 28, .int)]) [0, 1, 2, 3, 4, 5, 6, 7] rfl) (fun _ _ _ => trivial)⟩ rfl rfl hl.1 rfl (lv_room (Nat.le_of_ble_eq_true rfl)) d_D_formed_69 ⟨Nat.le_of_ble_eq_true rfl, Nat.le_of_ble_eq_true rfl⟩) hP hD hS hA [0, 1, 2, 3, 4, 5, 6, 7, 8] [] [0, 1, 2, 3, 4, 5, 6, 7, 8] rfl rfl (by decide) (by decide) (by decide) (fun _ => rfl) (fun H locs hP hD hS => ?_)
      have hP : va_P D vwCl (wD h c ((m_operand st).2)) H := hP
      have hD : va_D A (wD h c ((m_operand st).2)) := hD
      refine lv_istore (lv' := [(5, .int ((m_operand st).1)), (7, .int (0 : Int32)), (6, .int (0 : Int32)), (0, .ref (h 20)), (1, .int p0), (2, .int p1), (3, .int x_1), (4, .int x_5)]) hx hb d_D_formed_72 hl (by decide) rfl (fun ls hl => ?_)
      exact J_13 ((m_operand st).1, (m_operand st).2) _ _ _ ⟨by simp only [if_pos c_14], by simp only [if_pos c_14], hP, hD, hS, (lv_sub hl [3, 4, 5, 6, 7, 0, 2, 1] rfl)⟩
    refine lv_iload_n hx hb d_D_formed_63 rfl (lv_at hl 4 rfl) ?_
    refine lv_iconst (v := (2 : Int32)) hx hb d_D_formed_64 (by decide) ?_
    refine lv_icmp_ne (tgt := 74) hx hb d_D_formed_65 (by decide) (fun c_16 => ?_) (fun c_16 => ?_)
    · exact J_13 (x_8, st) _ _ _ ⟨by simp only [if_neg c_14, if_neg c_16], by simp only [if_neg c_14, if_neg c_16], hP, hD, hS, (lv_sub hl [3, 4, 5, 6, 7, 2, 1, 0] rfl)⟩
    refine lv_aload_n hx hb d_D_formed_68 rfl (lv_at hl 3 rfl) ?_
    refine zc_iwE (w2 := fun u9 => wD h c u9) (va_runV (As := []) (rest := []) ⟨hx, hb, hml, hown, ht⟩ (mt_D_operand l D h c H.size st _ (by omega) hL) (cwV 0 ht (zgV zw_1142 zw_1144 zs_81 zw_7 zw_1145) rfl rfl rfl kd_D_operand ⟨Nat.le_of_ble_eq_true rfl, Nat.le_of_ble_eq_true rfl⟩) ⟨zw_blind zw_tt, va_recv (hK.sub (tys' := [(c 21, .long), (c 22, .int), (c 23, .int), (c 24, .int), (c 25, .int), (c 26, .int), (c 27, .int), (c 28, .int)]) [0, 1, 2, 3, 4, 5, 6, 7] rfl) (hP.sub (ws' := wD h c st) [0, 1, 2, 3, 4, 5, 6, 7, 8] rfl) (ci := 6) (q0 := 0) rfl rfl, zw_go (hP.sub (ws' := wD h c st) [0, 1, 2, 3, 4, 5, 6, 7, 8] rfl) (hD.sub (ws' := wD h c st) [0, 1, 2, 3, 4, 5, 6, 7, 8] (by decide) rfl) (hK.sub (tys' := [(c 21, .long), (c 22, .int), (c 23, .int), (c 24, .int), (c 25, .int), (c 26, .int), (c 27, .int), (c 28, .int)]) [0, 1, 2, 3, 4, 5, 6, 7] rfl) (fun _ _ _ => trivial)⟩ rfl rfl hl.1 rfl (lv_room (Nat.le_of_ble_eq_true rfl)) d_D_formed_69 ⟨Nat.le_of_ble_eq_true rfl, Nat.le_of_ble_eq_true rfl⟩) hP hD hS hA [0, 1, 2, 3, 4, 5, 6, 7, 8] [] [0, 1, 2, 3, 4, 5, 6, 7, 8] rfl rfl (by decide) (by decide) (by decide) (fun _ => rfl) (fun H locs hP hD hS => ?_)
    have hP : va_P D vwCl (wD h c ((m_operand st).2)) H := hP
    have hD : va_D A (wD h c ((m_operand st).2)) := hD
    refine lv_istore (lv' := [(5, .int ((m_operand st).1)), (7, .int (0 : Int32)), (6, .int (0 : Int32)), (0, .ref (h 20)), (1, .int p0), (2, .int p1), (3, .int x_1), (4, .int x_5)]) hx hb d_D_formed_72 hl (by decide) rfl (fun ls hl => ?_)
    exact J_13 ((m_operand st).1, (m_operand st).2) _ _ _ ⟨by simp only [if_neg c_14, if_pos c_16], by simp only [if_neg c_14, if_pos c_16], hP, hD, hS, (lv_sub hl [3, 4, 5, 6, 7, 0, 2, 1] rfl)⟩
  obtain ⟨x_11, u_12⟩ := v9
  obtain ⟨ex_11, eu_12, hP, hD, hS, hl⟩ := hG
  have ex_11 : x_11 = _ := ex_11
  have eu_12 : u_12 = _ := eu_12
  have ok_12 : okL (k9 + 5) u_12 := by rw [eu_12]; exact (okL_iteD (fun c_11 => (ol_operand (by omega) hL)) (fun c_11 => (okL_iteD (fun c_13 => (ol_operand (by omega) hL)) (fun c_13 => (ol_mono hL (by omega))))))
  refine lv_iload_n hx hb d_D_formed_74 rfl (lv_at hl 1 rfl) ?_
  refine lv_bipush (v := (6 : Int32)) hx hb d_D_formed_75 (by decide) ?_
  refine zcut (X := SD) (G := fun v9 H locs ls => v9 = (if p0 = (6 : Int32) then m_comma u_12 else u_12) ∧ va_P D vwCl (wD h c v9) H ∧ va_D A (wD h c v9) ∧ va_S A s.heap H locs ∧ lv_has ls 8 [(0, .ref (h 20)), (1, .int p0), (2, .int p1), (3, .int x_1), (4, .int x_5), (5, .int x_11), (6, .int (0 : Int32)), (7, .int (0 : Int32))]) (fr := fun v9 ls => F0 m 84 ls []) (fun J_19 => ?_) (fun v9 H locs ls hG => ?_)
  · refine lv_icmp_ne (tgt := 84) hx hb d_D_formed_77 (by decide) (fun c_20 => ?_) (fun c_20 => ?_)
    · exact J_19 u_12 _ _ _ ⟨by simp only [if_neg c_20], hP, hD, hS, hl⟩
    refine lv_aload_n hx hb d_D_formed_80 rfl (lv_at hl 0 rfl) ?_
    refine zc_vE (w2 := fun u9 => wD h c u9) (va_runV (As := []) (rest := []) ⟨hx, hb, hml, hown, ht⟩ (mt_D_comma l D h c H.size u_12 _ (by omega) ok_12) (cwV 0 ht (zgV zw_1138 zw_1140 zs_80 zw_7 zw_1141) rfl rfl rfl kd_D_comma ⟨Nat.le_of_ble_eq_true rfl, Nat.le_of_ble_eq_true rfl⟩) ⟨zw_blind zw_tt, va_recv (hK.sub (tys' := [(c 21, .long), (c 22, .int), (c 23, .int), (c 24, .int), (c 25, .int), (c 26, .int), (c 27, .int), (c 28, .int)]) [0, 1, 2, 3, 4, 5, 6, 7] rfl) (hP.sub (ws' := wD h c u_12) [0, 1, 2, 3, 4, 5, 6, 7, 8] rfl) (ci := 6) (q0 := 0) rfl rfl, zw_go (hP.sub (ws' := wD h c u_12) [0, 1, 2, 3, 4, 5, 6, 7, 8] rfl) (hD.sub (ws' := wD h c u_12) [0, 1, 2, 3, 4, 5, 6, 7, 8] (by decide) rfl) (hK.sub (tys' := [(c 21, .long), (c 22, .int), (c 23, .int), (c 24, .int), (c 25, .int), (c 26, .int), (c 27, .int), (c 28, .int)]) [0, 1, 2, 3, 4, 5, 6, 7] rfl) (fun _ _ _ => trivial)⟩ rfl rfl hl.1 rfl (lv_room (Nat.le_of_ble_eq_true rfl)) d_D_formed_81 ⟨Nat.le_of_ble_eq_true rfl, Nat.le_of_ble_eq_true rfl⟩) hP hD hS hA [0, 1, 2, 3, 4, 5, 6, 7, 8] [] [0, 1, 2, 3, 4, 5, 6, 7, 8] rfl rfl (by decide) (by decide) (by decide) (fun _ => rfl) (fun H locs hP hD hS => ?_)
    have hP : va_P D vwCl (wD h c (m_comma u_12)) H := hP
    have hD : va_D A (wD h c (m_comma u_12)) := hD
    exact J_19 (m_comma u_12) _ _ _ ⟨by simp only [if_pos c_20], hP, hD, hS, hl⟩
  obtain ⟨u_18, rfl⟩ : ∃ z, z = v9 := ⟨_, rfl⟩
  obtain ⟨eu_18, hP, hD, hS, hl⟩ := hG
  have ok_18 : okL (k9 + 6) u_18 := by rw [eu_18]; exact (okL_iteD (fun c_18 => (ol_comma (by omega) ok_12)) (fun c_18 => (ol_mono ok_12 (by omega))))
  refine lv_iload_n hx hb d_D_formed_84 rfl (lv_at hl 1 rfl) ?_
  refine lv_iconst (v := (2 : Int32)) hx hb d_D_formed_85 (by decide) ?_
  refine zcut (X := Int32 × Int32 × SD) (G := fun v9 H locs ls => v9.1 = (if p0 = (2 : Int32) then (0 : Int32) else (m_operand u_18).1) ∧ v9.2.1 = (if p0 = (2 : Int32) then (0 : Int32) else (m_last (m_comma ((m_operand u_18).2))).1) ∧ v9.2.2 = (if p0 = (2 : Int32) then u_18 else (m_last (m_comma ((m_operand u_18).2))).2) ∧ va_P D vwCl (wD h c v9.2.2) H ∧ va_D A (wD h c v9.2.2) ∧ va_S A s.heap H locs ∧ lv_has ls 8 [(0, .ref (h 20)), (1, .int p0), (2, .int p1), (3, .int x_1), (4, .int x_5), (5, .int x_11), (6, .int v9.1), (7, .int v9.2.1)]) (fr := fun v9 ls => F0 m 105 ls []) (fun J_25 => ?_) (fun v9 H locs ls hG => ?_)
  · refine lv_icmp_eq (tgt := 105) hx hb d_D_formed_86 (by decide) (fun c_26 => ?_) (fun c_26 => ?_)
    · exact J_25 ((0 : Int32), (0 : Int32), u_18) _ _ _ ⟨by simp only [if_pos c_26], by simp only [if_pos c_26], by simp only [if_pos c_26], hP, hD, hS, hl⟩
    refine lv_aload_n hx hb d_D_formed_89 rfl (lv_at hl 0 rfl) ?_
    refine zc_iwE (w2 := fun u9 => wD h c u9) (va_runV (As := []) (rest := []) ⟨hx, hb, hml, hown, ht⟩ (mt_D_operand l D h c H.size u_18 _ (by omega) ok_18) (cwV 0 ht (zgV zw_1142 zw_1144 zs_81 zw_7 zw_1145) rfl rfl rfl kd_D_operand ⟨Nat.le_of_ble_eq_true rfl, Nat.le_of_ble_eq_true rfl⟩) ⟨zw_blind zw_tt, va_recv (hK.sub (tys' := [(c 21, .long), (c 22, .int), (c 23, .int), (c 24, .int), (c 25, .int), (c 26, .int), (c 27, .int), (c 28, .int)]) [0, 1, 2, 3, 4, 5, 6, 7] rfl) (hP.sub (ws' := wD h c u_18) [0, 1, 2, 3, 4, 5, 6, 7, 8] rfl) (ci := 6) (q0 := 0) rfl rfl, zw_go (hP.sub (ws' := wD h c u_18) [0, 1, 2, 3, 4, 5, 6, 7, 8] rfl) (hD.sub (ws' := wD h c u_18) [0, 1, 2, 3, 4, 5, 6, 7, 8] (by decide) rfl) (hK.sub (tys' := [(c 21, .long), (c 22, .int), (c 23, .int), (c 24, .int), (c 25, .int), (c 26, .int), (c 27, .int), (c 28, .int)]) [0, 1, 2, 3, 4, 5, 6, 7] rfl) (fun _ _ _ => trivial)⟩ rfl rfl hl.1 rfl (lv_room (Nat.le_of_ble_eq_true rfl)) d_D_formed_90 ⟨Nat.le_of_ble_eq_true rfl, Nat.le_of_ble_eq_true rfl⟩) hP hD hS hA [0, 1, 2, 3, 4, 5, 6, 7, 8] [] [0, 1, 2, 3, 4, 5, 6, 7, 8] rfl rfl (by decide) (by decide) (by decide) (fun _ => rfl) (fun H locs hP hD hS => ?_)
    have hP : va_P D vwCl (wD h c ((m_operand u_18).2)) H := hP
    have hD : va_D A (wD h c ((m_operand u_18).2)) := hD
    refine lv_istore (lv' := [(6, .int ((m_operand u_18).1)), (0, .ref (h 20)), (1, .int p0), (2, .int p1), (3, .int x_1), (4, .int x_5), (5, .int x_11), (7, .int (0 : Int32))]) hx hb d_D_formed_93 hl (by decide) rfl (fun ls hl => ?_)
    refine lv_aload_n hx hb d_D_formed_95 rfl (lv_at hl 1 rfl) ?_
    refine zc_vE (w2 := fun u9 => wD h c u9) (va_runV (As := []) (rest := []) ⟨hx, hb, hml, hown, ht⟩ (mt_D_comma l D h c H.size ((m_operand u_18).2) _ (by omega) (ol_operand (by omega) ok_18)) (cwV 0 ht (zgV zw_1138 zw_1140 zs_80 zw_7 zw_1141) rfl rfl rfl kd_D_comma ⟨Nat.le_of_ble_eq_true rfl, Nat.le_of_ble_eq_true rfl⟩) ⟨zw_blind zw_tt, va_recv (hK.sub (tys' := [(c 21, .long), (c 22, .int), (c 23, .int), (c 24, .int), (c 25, .int), (c 26, .int), (c 27, .int), (c 28, .int)]) [0, 1, 2, 3, 4, 5, 6, 7] rfl) (hP.sub (ws' := wD h c ((m_operand u_18).2)) [0, 1, 2, 3, 4, 5, 6, 7, 8] rfl) (ci := 6) (q0 := 0) rfl rfl, zw_go (hP.sub (ws' := wD h c ((m_operand u_18).2)) [0, 1, 2, 3, 4, 5, 6, 7, 8] rfl) (hD.sub (ws' := wD h c ((m_operand u_18).2)) [0, 1, 2, 3, 4, 5, 6, 7, 8] (by decide) rfl) (hK.sub (tys' := [(c 21, .long), (c 22, .int), (c 23, .int), (c 24, .int), (c 25, .int), (c 26, .int), (c 27, .int), (c 28, .int)]) [0, 1, 2, 3, 4, 5, 6, 7] rfl) (fun _ _ _ => trivial)⟩ rfl rfl hl.1 rfl (lv_room (Nat.le_of_ble_eq_true rfl)) d_D_formed_96 ⟨Nat.le_of_ble_eq_true rfl, Nat.le_of_ble_eq_true rfl⟩) hP hD hS hA [0, 1, 2, 3, 4, 5, 6, 7, 8] [] [0, 1, 2, 3, 4, 5, 6, 7, 8] rfl rfl (by decide) (by decide) (by decide) (fun _ => rfl) (fun H locs hP hD hS => ?_)
    have hP : va_P D vwCl (wD h c (m_comma ((m_operand u_18).2))) H := hP
    have hD : va_D A (wD h c (m_comma ((m_operand u_18).2))) := hD
    refine lv_aload_n hx hb d_D_formed_99 rfl (lv_at hl 1 rfl) ?_
    refine zc_iwE (w2 := fun u9 => wD h c u9) (va_runV (As := []) (rest := []) ⟨hx, hb, hml, hown, ht⟩ (mt_D_last l D h c H.size (m_comma ((m_operand u_18).2)) _ (by omega) (ol_comma (by omega) (ol_operand (by omega) ok_18))) (cwV 0 ht (zgV zw_1167 zw_1169 zs_85 zw_7 zw_1170) rfl rfl rfl kd_D_last ⟨Nat.le_of_ble_eq_true rfl, Nat.le_of_ble_eq_true rfl⟩) ⟨zw_blind zw_tt, va_recv (hK.sub (tys' := [(c 21, .long), (c 22, .int), (c 23, .int), (c 24, .int), (c 25, .int), (c 26, .int), (c 27, .int), (c 28, .int)]) [0, 1, 2, 3, 4, 5, 6, 7] rfl) (hP.sub (ws' := wD h c (m_comma ((m_operand u_18).2))) [0, 1, 2, 3, 4, 5, 6, 7, 8] rfl) (ci := 6) (q0 := 0) rfl rfl, zw_go (hP.sub (ws' := wD h c (m_comma ((m_operand u_18).2))) [0, 1, 2, 3, 4, 5, 6, 7, 8] rfl) (hD.sub (ws' := wD h c (m_comma ((m_operand u_18).2))) [0, 1, 2, 3, 4, 5, 6, 7, 8] (by decide) rfl) (hK.sub (tys' := [(c 21, .long), (c 22, .int), (c 23, .int), (c 24, .int), (c 25, .int), (c 26, .int), (c 27, .int), (c 28, .int)]) [0, 1, 2, 3, 4, 5, 6, 7] rfl) (fun _ _ _ => trivial)⟩ rfl rfl hl.1 rfl (lv_room (Nat.le_of_ble_eq_true rfl)) d_D_formed_100 ⟨Nat.le_of_ble_eq_true rfl, Nat.le_of_ble_eq_true rfl⟩) hP hD hS hA [0, 1, 2, 3, 4, 5, 6, 7, 8] [] [0, 1, 2, 3, 4, 5, 6, 7, 8] rfl rfl (by decide) (by decide) (by decide) (fun _ => rfl) (fun H locs hP hD hS => ?_)
    have hP : va_P D vwCl (wD h c ((m_last (m_comma ((m_operand u_18).2))).2)) H := hP
    have hD : va_D A (wD h c ((m_last (m_comma ((m_operand u_18).2))).2)) := hD
    refine lv_istore (lv' := [(7, .int ((m_last (m_comma ((m_operand u_18).2))).1)), (6, .int ((m_operand u_18).1)), (0, .ref (h 20)), (1, .int p0), (2, .int p1), (3, .int x_1), (4, .int x_5), (5, .int x_11)]) hx hb d_D_formed_103 hl (by decide) rfl (fun ls hl => ?_)
    exact J_25 ((m_operand u_18).1, (m_last (m_comma ((m_operand u_18).2))).1, (m_last (m_comma ((m_operand u_18).2))).2) _ _ _ ⟨by simp only [if_neg c_26], by simp only [if_neg c_26], by simp only [if_neg c_26], hP, hD, hS, (lv_sub hl [2, 3, 4, 5, 6, 7, 1, 0] rfl)⟩
  obtain ⟨x_22, x_23, u_24⟩ := v9
  obtain ⟨ex_22, ex_23, eu_24, hP, hD, hS, hl⟩ := hG
  have ex_22 : x_22 = _ := ex_22
  have ex_23 : x_23 = _ := ex_23
  have eu_24 : u_24 = _ := eu_24
  have ok_24 : okL (k9 + 25) u_24 := by rw [eu_24]; exact (okL_iteD (fun c_22 => (ol_mono ok_18 (by omega))) (fun c_22 => (ol_last (by omega) (ol_comma (by omega) (ol_operand (by omega) ok_18)))))
  refine lv_iload_n hx hb d_D_formed_105 rfl (lv_at hl 1 rfl) ?_
  refine zcut (X := Int32 × SD) (G := fun v9 H locs ls => v9.1 = (if p0 = (0 : Int32) then (m_operand (m_comma u_24)).1 else x_11) ∧ v9.2 = (if p0 = (0 : Int32) then (m_operand (m_comma u_24)).2 else u_24) ∧ va_P D vwCl (wD h c v9.2) H ∧ va_D A (wD h c v9.2) ∧ va_S A s.heap H locs ∧ lv_has ls 8 [(0, .ref (h 20)), (1, .int p0), (2, .int p1), (3, .int x_1), (4, .int x_5), (5, .int v9.1), (6, .int x_22), (7, .int x_23)]) (fr := fun v9 ls => F0 m 119 ls []) (fun J_32 => ?_) (fun v9 H locs ls hG => ?_)
  · refine lv_if_ne (tgt := 119) hx hb d_D_formed_106 (by decide) (fun c_33 => ?_) (fun c_33 => ?_)
    · exact J_32 (x_11, u_24) _ _ _ ⟨by simp only [if_neg c_33], by simp only [if_neg c_33], hP, hD, hS, hl⟩
    refine lv_aload_n hx hb d_D_formed_109 rfl (lv_at hl 0 rfl) ?_
    refine zc_vE (w2 := fun u9 => wD h c u9) (va_runV (As := []) (rest := []) ⟨hx, hb, hml, hown, ht⟩ (mt_D_comma l D h c H.size u_24 _ (by omega) ok_24) (cwV 0 ht (zgV zw_1138 zw_1140 zs_80 zw_7 zw_1141) rfl rfl rfl kd_D_comma ⟨Nat.le_of_ble_eq_true rfl, Nat.le_of_ble_eq_true rfl⟩) ⟨zw_blind zw_tt, va_recv (hK.sub (tys' := [(c 21, .long), (c 22, .int), (c 23, .int), (c 24, .int), (c 25, .int), (c 26, .int), (c 27, .int), (c 28, .int)]) [0, 1, 2, 3, 4, 5, 6, 7] rfl) (hP.sub (ws' := wD h c u_24) [0, 1, 2, 3, 4, 5, 6, 7, 8] rfl) (ci := 6) (q0 := 0) rfl rfl, zw_go (hP.sub (ws' := wD h c u_24) [0, 1, 2, 3, 4, 5, 6, 7, 8] rfl) (hD.sub (ws' := wD h c u_24) [0, 1, 2, 3, 4, 5, 6, 7, 8] (by decide) rfl) (hK.sub (tys' := [(c 21, .long), (c 22, .int), (c 23, .int), (c 24, .int), (c 25, .int), (c 26, .int), (c 27, .int), (c 28, .int)]) [0, 1, 2, 3, 4, 5, 6, 7] rfl) (fun _ _ _ => trivial)⟩ rfl rfl hl.1 rfl (lv_room (Nat.le_of_ble_eq_true rfl)) d_D_formed_110 ⟨Nat.le_of_ble_eq_true rfl, Nat.le_of_ble_eq_true rfl⟩) hP hD hS hA [0, 1, 2, 3, 4, 5, 6, 7, 8] [] [0, 1, 2, 3, 4, 5, 6, 7, 8] rfl rfl (by decide) (by decide) (by decide) (fun _ => rfl) (fun H locs hP hD hS => ?_)
    have hP : va_P D vwCl (wD h c (m_comma u_24)) H := hP
    have hD : va_D A (wD h c (m_comma u_24)) := hD
    refine lv_aload_n hx hb d_D_formed_113 rfl (lv_at hl 0 rfl) ?_
    refine zc_iwE (w2 := fun u9 => wD h c u9) (va_runV (As := []) (rest := []) ⟨hx, hb, hml, hown, ht⟩ (mt_D_operand l D h c H.size (m_comma u_24) _ (by omega) (ol_comma (by omega) ok_24)) (cwV 0 ht (zgV zw_1142 zw_1144 zs_81 zw_7 zw_1145) rfl rfl rfl kd_D_operand ⟨Nat.le_of_ble_eq_true rfl, Nat.le_of_ble_eq_true rfl⟩) ⟨zw_blind zw_tt, va_recv (hK.sub (tys' := [(c 21, .long), (c 22, .int), (c 23, .int), (c 24, .int), (c 25, .int), (c 26, .int), (c 27, .int), (c 28, .int)]) [0, 1, 2, 3, 4, 5, 6, 7] rfl) (hP.sub (ws' := wD h c (m_comma u_24)) [0, 1, 2, 3, 4, 5, 6, 7, 8] rfl) (ci := 6) (q0 := 0) rfl rfl, zw_go (hP.sub (ws' := wD h c (m_comma u_24)) [0, 1, 2, 3, 4, 5, 6, 7, 8] rfl) (hD.sub (ws' := wD h c (m_comma u_24)) [0, 1, 2, 3, 4, 5, 6, 7, 8] (by decide) rfl) (hK.sub (tys' := [(c 21, .long), (c 22, .int), (c 23, .int), (c 24, .int), (c 25, .int), (c 26, .int), (c 27, .int), (c 28, .int)]) [0, 1, 2, 3, 4, 5, 6, 7] rfl) (fun _ _ _ => trivial)⟩ rfl rfl hl.1 rfl (lv_room (Nat.le_of_ble_eq_true rfl)) d_D_formed_114 ⟨Nat.le_of_ble_eq_true rfl, Nat.le_of_ble_eq_true rfl⟩) hP hD hS hA [0, 1, 2, 3, 4, 5, 6, 7, 8] [] [0, 1, 2, 3, 4, 5, 6, 7, 8] rfl rfl (by decide) (by decide) (by decide) (fun _ => rfl) (fun H locs hP hD hS => ?_)
    have hP : va_P D vwCl (wD h c ((m_operand (m_comma u_24)).2)) H := hP
    have hD : va_D A (wD h c ((m_operand (m_comma u_24)).2)) := hD
    refine lv_istore (lv' := [(5, .int ((m_operand (m_comma u_24)).1)), (0, .ref (h 20)), (1, .int p0), (2, .int p1), (3, .int x_1), (4, .int x_5), (6, .int x_22), (7, .int x_23)]) hx hb d_D_formed_117 hl (by decide) rfl (fun ls hl => ?_)
    exact J_32 ((m_operand (m_comma u_24)).1, (m_operand (m_comma u_24)).2) _ _ _ ⟨by simp only [if_pos c_33], by simp only [if_pos c_33], hP, hD, hS, (lv_sub hl [1, 2, 3, 4, 5, 0, 6, 7] rfl)⟩
  obtain ⟨x_30, u_31⟩ := v9
  obtain ⟨ex_30, eu_31, hP, hD, hS, hl⟩ := hG
  have ex_30 : x_30 = _ := ex_30
  have eu_31 : u_31 = _ := eu_31
  have ok_31 : okL (k9 + 31) u_31 := by rw [eu_31]; exact (okL_iteD (fun c_30 => (ol_operand (by omega) (ol_comma (by omega) ok_24))) (fun c_30 => (ol_mono ok_24 (by omega))))
  refine lv_iload_n hx hb d_D_formed_119 rfl (lv_at hl 3 rfl) ?_
  refine lv_bipush (v := (30 : Int32)) hx hb d_D_formed_120 (by decide) ?_
  refine lv_ishl hx hb d_D_formed_122 ?_
  refine lv_iload hx hb d_D_formed_123 (lv_at hl 5 rfl) ?_
  refine lv_bipush (v := (25 : Int32)) hx hb d_D_formed_125 (by decide) ?_
  refine lv_ishl hx hb d_D_formed_127 ?_
  refine lv_ior hx hb d_D_formed_128 ?_
  refine lv_iload hx hb d_D_formed_129 (lv_at hl 4 rfl) ?_
  refine lv_bipush (v := (19 : Int32)) hx hb d_D_formed_131 (by decide) ?_
  refine lv_ishl hx hb d_D_formed_133 ?_
  refine lv_ior hx hb d_D_formed_134 ?_
  refine lv_iload hx hb d_D_formed_135 (lv_at hl 6 rfl) ?_
  refine lv_bipush (v := (14 : Int32)) hx hb d_D_formed_137 (by decide) ?_
  refine lv_ishl hx hb d_D_formed_139 ?_
  refine lv_ior hx hb d_D_formed_140 ?_
  refine lv_iload hx hb d_D_formed_141 (lv_at hl 7 rfl) ?_
  refine lv_ior hx hb d_D_formed_143 ?_
  exact zl_i (u := u_31) hx hb hr hlocks hS hP hD (⟨by simp only [m_formed, ← ex_1, ← ex_5, ← ex_8, ← ex_11, ← eu_12, ← eu_18, ← ex_22, ← ex_23, ← eu_24, ← ex_30, ← eu_31]; try simp only [if_true], by simp only [m_formed, ← ex_1, ← ex_5, ← ex_8, ← ex_11, ← eu_12, ← eu_18, ← ex_22, ← ex_23, ← eu_24, ← ex_30, ← eu_31]; try simp only [if_true]⟩) d_D_formed_144
