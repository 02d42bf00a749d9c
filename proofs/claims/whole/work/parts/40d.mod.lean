theorem d_D_holds_0 : decode c_D_holds 0 = .ok (.aload_n 0, 1) := by decide +kernel
theorem d_D_holds_1 : decode c_D_holds 1 = .ok (.getfield 255, 3) := by decide +kernel
theorem d_D_holds_4 : decode c_D_holds 4 = .ok (.aload_n 0, 1) := by decide +kernel
theorem d_D_holds_5 : decode c_D_holds 5 = .ok (.getfield 262, 3) := by decide +kernel
theorem d_D_holds_8 : decode c_D_holds 8 = .ok (.if_icmp .eq 7, 3) := by decide +kernel
theorem d_D_holds_11 : decode c_D_holds 11 = .ok (.iconst 1, 1) := by decide +kernel
theorem d_D_holds_12 : decode c_D_holds 12 = .ok (.goto 4, 3) := by decide +kernel
theorem d_D_holds_15 : decode c_D_holds 15 = .ok (.iconst 0, 1) := by decide +kernel
theorem d_D_holds_16 : decode c_D_holds 16 = .ok (.istore_n 2, 1) := by decide +kernel
theorem d_D_holds_17 : decode c_D_holds 17 = .ok (.iload_n 1, 1) := by decide +kernel
theorem d_D_holds_18 : decode c_D_holds 18 = .ok (.bipush 7, 2) := by decide +kernel
theorem d_D_holds_20 : decode c_D_holds 20 = .ok (.iand, 1) := by decide +kernel
theorem d_D_holds_21 : decode c_D_holds 21 = .ok (.tableswitch 120 0 6 #[43, 48, 56, 76, 81, 104, 112], 43) := by decide +kernel
theorem d_D_holds_64 : decode c_D_holds 64 = .ok (.iconst 0, 1) := by decide +kernel
theorem d_D_holds_65 : decode c_D_holds 65 = .ok (.istore_n 3, 1) := by decide +kernel
theorem d_D_holds_66 : decode c_D_holds 66 = .ok (.goto 80, 3) := by decide +kernel
theorem d_D_holds_69 : decode c_D_holds 69 = .ok (.aload_n 0, 1) := by decide +kernel
theorem d_D_holds_70 : decode c_D_holds 70 = .ok (.getfield 259, 3) := by decide +kernel
theorem d_D_holds_73 : decode c_D_holds 73 = .ok (.istore_n 3, 1) := by decide +kernel
theorem d_D_holds_74 : decode c_D_holds 74 = .ok (.goto 72, 3) := by decide +kernel
theorem d_D_holds_77 : decode c_D_holds 77 = .ok (.aload_n 0, 1) := by decide +kernel
theorem d_D_holds_78 : decode c_D_holds 78 = .ok (.getfield 259, 3) := by decide +kernel
theorem d_D_holds_81 : decode c_D_holds 81 = .ok (.ifCond .ne 7, 3) := by decide +kernel
theorem d_D_holds_84 : decode c_D_holds 84 = .ok (.iload_n 2, 1) := by decide +kernel
theorem d_D_holds_85 : decode c_D_holds 85 = .ok (.ifCond .eq 7, 3) := by decide +kernel
theorem d_D_holds_88 : decode c_D_holds 88 = .ok (.iconst 1, 1) := by decide +kernel
theorem d_D_holds_89 : decode c_D_holds 89 = .ok (.goto 4, 3) := by decide +kernel
theorem d_D_holds_92 : decode c_D_holds 92 = .ok (.iconst 0, 1) := by decide +kernel
theorem d_D_holds_93 : decode c_D_holds 93 = .ok (.istore_n 3, 1) := by decide +kernel
theorem d_D_holds_94 : decode c_D_holds 94 = .ok (.goto 52, 3) := by decide +kernel
theorem d_D_holds_97 : decode c_D_holds 97 = .ok (.iload_n 2, 1) := by decide +kernel
theorem d_D_holds_98 : decode c_D_holds 98 = .ok (.istore_n 3, 1) := by decide +kernel
theorem d_D_holds_99 : decode c_D_holds 99 = .ok (.goto 47, 3) := by decide +kernel
theorem d_D_holds_102 : decode c_D_holds 102 = .ok (.aload_n 0, 1) := by decide +kernel
theorem d_D_holds_103 : decode c_D_holds 103 = .ok (.getfield 265, 3) := by decide +kernel
theorem d_D_holds_106 : decode c_D_holds 106 = .ok (.ifCond .ne 10, 3) := by decide +kernel
theorem d_D_holds_109 : decode c_D_holds 109 = .ok (.aload_n 0, 1) := by decide +kernel
theorem d_D_holds_110 : decode c_D_holds 110 = .ok (.getfield 259, 3) := by decide +kernel
theorem d_D_holds_113 : decode c_D_holds 113 = .ok (.ifCond .eq 7, 3) := by decide +kernel
theorem d_D_holds_116 : decode c_D_holds 116 = .ok (.iconst 1, 1) := by decide +kernel
theorem d_D_holds_117 : decode c_D_holds 117 = .ok (.goto 4, 3) := by decide +kernel
theorem d_D_holds_120 : decode c_D_holds 120 = .ok (.iconst 0, 1) := by decide +kernel
theorem d_D_holds_121 : decode c_D_holds 121 = .ok (.istore_n 3, 1) := by decide +kernel
theorem d_D_holds_122 : decode c_D_holds 122 = .ok (.goto 24, 3) := by decide +kernel
theorem d_D_holds_125 : decode c_D_holds 125 = .ok (.aload_n 0, 1) := by decide +kernel
theorem d_D_holds_126 : decode c_D_holds 126 = .ok (.getfield 265, 3) := by decide +kernel
theorem d_D_holds_129 : decode c_D_holds 129 = .ok (.istore_n 3, 1) := by decide +kernel
theorem d_D_holds_130 : decode c_D_holds 130 = .ok (.goto 16, 3) := by decide +kernel
theorem d_D_holds_133 : decode c_D_holds 133 = .ok (.aload_n 0, 1) := by decide +kernel
theorem d_D_holds_134 : decode c_D_holds 134 = .ok (.getfield 255, 3) := by decide +kernel
theorem d_D_holds_137 : decode c_D_holds 137 = .ok (.istore_n 3, 1) := by decide +kernel
theorem d_D_holds_138 : decode c_D_holds 138 = .ok (.goto 8, 3) := by decide +kernel
theorem d_D_holds_141 : decode c_D_holds 141 = .ok (.aload_n 0, 1) := by decide +kernel
theorem d_D_holds_142 : decode c_D_holds 142 = .ok (.getfield 262, 3) := by decide +kernel
theorem d_D_holds_145 : decode c_D_holds 145 = .ok (.istore_n 3, 1) := by decide +kernel
theorem d_D_holds_146 : decode c_D_holds 146 = .ok (.iload_n 3, 1) := by decide +kernel
theorem d_D_holds_147 : decode c_D_holds 147 = .ok (.iload_n 1, 1) := by decide +kernel
theorem d_D_holds_148 : decode c_D_holds 148 = .ok (.bipush 7, 2) := by decide +kernel
theorem d_D_holds_150 : decode c_D_holds 150 = .ok (.if_icmp .le 7, 3) := by decide +kernel
theorem d_D_holds_153 : decode c_D_holds 153 = .ok (.iconst 1, 1) := by decide +kernel
theorem d_D_holds_154 : decode c_D_holds 154 = .ok (.goto 4, 3) := by decide +kernel
theorem d_D_holds_157 : decode c_D_holds 157 = .ok (.iconst 0, 1) := by decide +kernel
theorem d_D_holds_158 : decode c_D_holds 158 = .ok (.if_icmp .eq 7, 3) := by decide +kernel
theorem d_D_holds_161 : decode c_D_holds 161 = .ok (.iconst 1, 1) := by decide +kernel
theorem d_D_holds_162 : decode c_D_holds 162 = .ok (.goto 4, 3) := by decide +kernel
theorem d_D_holds_165 : decode c_D_holds 165 = .ok (.iconst 0, 1) := by decide +kernel
theorem d_D_holds_166 : decode c_D_holds 166 = .ok (.ireturn, 1) := by decide +kernel
theorem kd_D_holds : (y_D_holds).cls = "WindowMachineModel" ∧ (y_D_holds).cls ≠ "java/lang/invoke/MethodHandle" ∧ (y_D_holds).cls ≠ "java/lang/invoke/VarHandle" ∧ (parseMethodDescriptor (y_D_holds).desc).map (fun d => d.parameters.length) = some 1 := by decide +kernel
def m_holds (st : SD) (p0 : Int32) : Int32 := (let x_1 := (if (st.1 13) = (st.1 15) then (0 : Int32) else (1 : Int32)); (let x_4 := (if (p0 &&& (7 : Int32)) = (0 : Int32) then (0 : Int32) else (if (p0 &&& (7 : Int32)) = (1 : Int32) then st.1 14 else (if (p0 &&& (7 : Int32)) = (2 : Int32) then (if (st.1 14) = (0 : Int32) then (if x_1 = (0 : Int32) then (0 : Int32) else (1 : Int32)) else (1 : Int32)) else (if (p0 &&& (7 : Int32)) = (3 : Int32) then x_1 else (if (p0 &&& (7 : Int32)) = (4 : Int32) then (if (st.1 16) = (0 : Int32) then (if (st.1 14) = (0 : Int32) then (0 : Int32) else (1 : Int32)) else (1 : Int32)) else (if (p0 &&& (7 : Int32)) = (5 : Int32) then st.1 16 else (if (p0 &&& (7 : Int32)) = (6 : Int32) then st.1 13 else st.1 15))))))); (let x_22 := (if p0 ≤ (7 : Int32) then (0 : Int32) else (1 : Int32)); (let x_25 := (if x_4 = x_22 then (0 : Int32) else (1 : Int32)); x_25))))
set_option maxHeartbeats 4000000 in
set_option maxRecDepth 100000 in
theorem mt_D_holds (l : Launch) (D : va_G) (h : Nat → Nat) (c : Nat → ClassId) (sz : Nat) (st : SD) (p0 : Int32) : Met l y_D_holds w_D_holds ({ frames := 0, cells := 0, slots := 0, locals := 0 }) (va_Pc [.ref (h 20), .int p0] (zw_pre D vwCl [(c 21, .long), (c 22, .int), (c 23, .int), (c 24, .int), (c 25, .int), (c 26, .int), (c 27, .int), (c 28, .int)] sz (wD h c st) (fun _ => True))) (va_Qi (fun r (_ : Unit) => r = m_holds st p0) (fun u t => zw_at D vwCl (va_A (wD h c st) sz) ((fun (_ : Unit) => wD h c st) u) t) (va_A (wD h c st) sz)) 0 0 (va_A (wD h c st) sz) := by
  refine zm (Qf := fun A => va_Qi (fun r (_ : Unit) => r = m_holds st p0) (fun u t => zw_at D vwCl A ((fun (_ : Unit) => wD h c st) u) t) A) (Zf := fun _ _ => True) (cc := c_D_holds) (nL := 4) (ret := (some .boolean)) (by decide) rfl (Nat.le_of_ble_eq_true rfl) ?_
  intro p e s m below meth c9 A H locs ls hx hb hml hown hts hr hlocks hA hK hP hD hS hZ hl
  have hl : lv_has ls 4 [(0, .ref (h 20)), (1, .int p0)] := hl
  have ht : ∀ w9 ∈ zT, w9.before _ s = true := fun w9 h9 => hts w9 (List.mem_cons_of_mem _ h9)
  refine lv_aload_n hx hb d_D_holds_0 rfl (lv_at hl 0 rfl) ?_
  refine va_get (D := D) (ci := 6) (v := .int (st.1 13)) (C := "WindowMachineModel") (T := T_D) (N := 31) hx hb ht zi_D hown hK hP 0 rfl rfl 21 (by decide) (ht _ zw_875) (fun _ h9 => h9) rfl d_D_holds_1 ?_
  refine lv_aload_n hx hb d_D_holds_4 rfl (lv_at hl 0 rfl) ?_
  refine va_get (D := D) (ci := 6) (v := .int (st.1 15)) (C := "WindowMachineModel") (T := T_D) (N := 31) hx hb ht zi_D hown hK hP 0 rfl rfl 23 (by decide) (ht _ zw_877) (fun _ h9 => h9) rfl d_D_holds_5 ?_
  refine zcut (X := Int32) (G := fun v9 H locs ls => v9 = (if (st.1 13) = (st.1 15) then (0 : Int32) else (1 : Int32)) ∧ va_P D vwCl (wD h c st) H ∧ va_D A (wD h c st) ∧ va_S A s.heap H locs ∧ lv_has ls 4 [(0, .ref (h 20)), (1, .int p0)]) (fr := fun v9 ls => F0 m 16 ls [.int v9]) (fun J_2 => ?_) (fun v9 H locs ls hG => ?_)
  · refine lv_icmp_eq (tgt := 15) hx hb d_D_holds_8 (by decide) (fun c_3 => ?_) (fun c_3 => ?_)
    · refine lv_iconst (v := (0 : Int32)) hx hb d_D_holds_15 (by decide) ?_
      exact J_2 (0 : Int32) _ _ _ ⟨by simp only [if_pos c_3], hP, hD, hS, hl⟩
    refine lv_iconst (v := (1 : Int32)) hx hb d_D_holds_11 (by decide) ?_
    refine lv_goto (tgt := 16) hx hb d_D_holds_12 (by decide) ?_
    exact J_2 (1 : Int32) _ _ _ ⟨by simp only [if_neg c_3], hP, hD, hS, hl⟩
  obtain ⟨x_1, rfl⟩ : ∃ z, z = v9 := ⟨_, rfl⟩
  obtain ⟨ex_1, hP, hD, hS, hl⟩ := hG
  have zbx_1 : zB x_1 := by rw [ex_1]; repeat' first | exact zB0 | exact zB1 | assumption | apply zB_ite
  refine lv_istore_n (lv' := [(2, .int x_1), (0, .ref (h 20)), (1, .int p0)]) hx hb d_D_holds_16 rfl hl (by decide) rfl (fun ls hl => ?_)
  refine lv_iload_n hx hb d_D_holds_17 rfl (lv_at hl 2 rfl) ?_
  refine lv_bipush (v := (7 : Int32)) hx hb d_D_holds_18 (by decide) ?_
  refine lv_iand hx hb d_D_holds_20 ?_
  refine zcut (X := Int32) (G := fun v9 H locs ls => v9 = (if (p0 &&& (7 : Int32)) = (0 : Int32) then (0 : Int32) else (if (p0 &&& (7 : Int32)) = (1 : Int32) then st.1 14 else (if (p0 &&& (7 : Int32)) = (2 : Int32) then (if (st.1 14) = (0 : Int32) then (if x_1 = (0 : Int32) then (0 : Int32) else (1 : Int32)) else (1 : Int32)) else (if (p0 &&& (7 : Int32)) = (3 : Int32) then x_1 else (if (p0 &&& (7 : Int32)) = (4 : Int32) then (if (st.1 16) = (0 : Int32) then (if (st.1 14) = (0 : Int32) then (0 : Int32) else (1 : Int32)) else (1 : Int32)) else (if (p0 &&& (7 : Int32)) = (5 : Int32) then st.1 16 else (if (p0 &&& (7 : Int32)) = (6 : Int32) then st.1 13 else st.1 15))))))) ∧ va_P D vwCl (wD h c st) H ∧ va_D A (wD h c st) ∧ va_S A s.heap H locs ∧ lv_has ls 4 [(0, .ref (h 20)), (1, .int p0), (2, .int x_1), (3, .int v9)]) (fr := fun v9 ls => F0 m 146 ls []) (fun J_5 => ?_) (fun v9 H locs ls hG => ?_)
  · by_cases c_7 : (p0 &&& (7 : Int32)) = (0 : Int32)
    · refine lv_tableIn (tgt := 64) hx hb d_D_holds_21 (by rw [c_7]; decide) (by rw [c_7]; decide) (by rw [c_7]; rfl) (by decide) ?_
      refine lv_iconst (v := (0 : Int32)) hx hb d_D_holds_64 (by decide) ?_
      refine lv_istore_n (lv' := [(3, .int (0 : Int32)), (2, .int x_1), (0, .ref (h 20)), (1, .int p0)]) hx hb d_D_holds_65 rfl hl (by decide) rfl (fun ls hl => ?_)
      refine lv_goto (tgt := 146) hx hb d_D_holds_66 (by decide) ?_
      exact J_5 (0 : Int32) _ _ _ ⟨by simp only [if_pos c_7], hP, hD, hS, (lv_sub hl [2, 3, 1, 0] rfl)⟩
    by_cases c_8 : (p0 &&& (7 : Int32)) = (1 : Int32)
    · refine lv_tableIn (tgt := 69) hx hb d_D_holds_21 (by rw [c_8]; decide) (by rw [c_8]; decide) (by rw [c_8]; rfl) (by decide) ?_
      refine lv_aload_n hx hb d_D_holds_69 rfl (lv_at hl 1 rfl) ?_
      refine va_get (D := D) (ci := 6) (v := .int (st.1 14)) (C := "WindowMachineModel") (T := T_D) (N := 31) hx hb ht zi_D hown hK hP 0 rfl rfl 22 (by decide) (ht _ zw_876) (fun _ h9 => h9) rfl d_D_holds_70 ?_
      refine lv_istore_n (lv' := [(3, .int (st.1 14)), (2, .int x_1), (0, .ref (h 20)), (1, .int p0)]) hx hb d_D_holds_73 rfl hl (by decide) rfl (fun ls hl => ?_)
      refine lv_goto (tgt := 146) hx hb d_D_holds_74 (by decide) ?_
      exact J_5 (st.1 14) _ _ _ ⟨by simp only [if_neg c_7, if_pos c_8], hP, hD, hS, (lv_sub hl [2, 3, 1, 0] rfl)⟩
    by_cases c_9 : (p0 &&& (7 : Int32)) = (2 : Int32)
    · refine lv_tableIn (tgt := 77) hx hb d_D_holds_21 (by rw [c_9]; decide) (by rw [c_9]; decide) (by rw [c_9]; rfl) (by decide) ?_
      refine lv_aload_n hx hb d_D_holds_77 rfl (lv_at hl 1 rfl) ?_
      refine va_get (D := D) (ci := 6) (v := .int (st.1 14)) (C := "WindowMachineModel") (T := T_D) (N := 31) hx hb ht zi_D hown hK hP 0 rfl rfl 22 (by decide) (ht _ zw_876) (fun _ h9 => h9) rfl d_D_holds_78 ?_
      refine zcut (X := Int32) (G := fun v9 H locs ls => v9 = (if (st.1 14) = (0 : Int32) then (if x_1 = (0 : Int32) then (0 : Int32) else (1 : Int32)) else (1 : Int32)) ∧ va_P D vwCl (wD h c st) H ∧ va_D A (wD h c st) ∧ va_S A s.heap H locs ∧ lv_has ls 4 [(0, .ref (h 20)), (1, .int p0), (2, .int x_1)]) (fr := fun v9 ls => F0 m 93 ls [.int v9]) (fun J_11 => ?_) (fun v9 H locs ls hG => ?_)
      · refine lv_if_ne (tgt := 88) hx hb d_D_holds_81 (by decide) (fun c_12 => ?_) (fun c_12 => ?_)
        · refine lv_iconst (v := (1 : Int32)) hx hb d_D_holds_88 (by decide) ?_
          refine lv_goto (tgt := 93) hx hb d_D_holds_89 (by decide) ?_
          exact J_11 (1 : Int32) _ _ _ ⟨by simp only [if_neg c_12], hP, hD, hS, (lv_sub hl [1, 2, 0] rfl)⟩
        refine lv_iload_n hx hb d_D_holds_84 rfl (lv_at hl 0 rfl) ?_
        refine lv_if_eq (tgt := 92) hx hb d_D_holds_85 (by decide) (fun c_13 => ?_) (fun c_13 => ?_)
        · refine lv_iconst (v := (0 : Int32)) hx hb d_D_holds_92 (by decide) ?_
          exact J_11 (0 : Int32) _ _ _ ⟨by simp only [if_pos c_12, if_pos c_13], hP, hD, hS, (lv_sub hl [1, 2, 0] rfl)⟩
        refine lv_iconst (v := (1 : Int32)) hx hb d_D_holds_88 (by decide) ?_
        refine lv_goto (tgt := 93) hx hb d_D_holds_89 (by decide) ?_
        exact J_11 (1 : Int32) _ _ _ ⟨by simp only [if_pos c_12, if_neg c_13], hP, hD, hS, (lv_sub hl [1, 2, 0] rfl)⟩
      obtain ⟨x_10, rfl⟩ : ∃ z, z = v9 := ⟨_, rfl⟩
      obtain ⟨ex_10, hP, hD, hS, hl⟩ := hG
      subst ex_10
      refine lv_istore_n (lv' := [(3, .int (if (st.1 14) = (0 : Int32) then (if x_1 = (0 : Int32) then (0 : Int32) else (1 : Int32)) else (1 : Int32))), (0, .ref (h 20)), (1, .int p0), (2, .int x_1)]) hx hb d_D_holds_93 rfl hl (by decide) rfl (fun ls hl => ?_)
      refine lv_goto (tgt := 146) hx hb d_D_holds_94 (by decide) ?_
      exact J_5 (if (st.1 14) = (0 : Int32) then (if x_1 = (0 : Int32) then (0 : Int32) else (1 : Int32)) else (1 : Int32)) _ _ _ ⟨by simp only [if_neg c_7, if_neg c_8, if_pos c_9], hP, hD, hS, (lv_sub hl [1, 2, 3, 0] rfl)⟩
    by_cases c_14 : (p0 &&& (7 : Int32)) = (3 : Int32)
    · refine lv_tableIn (tgt := 97) hx hb d_D_holds_21 (by rw [c_14]; decide) (by rw [c_14]; decide) (by rw [c_14]; rfl) (by decide) ?_
      refine lv_iload_n hx hb d_D_holds_97 rfl (lv_at hl 0 rfl) ?_
      refine lv_istore_n (lv' := [(3, .int x_1), (2, .int x_1), (0, .ref (h 20)), (1, .int p0)]) hx hb d_D_holds_98 rfl hl (by decide) rfl (fun ls hl => ?_)
      refine lv_goto (tgt := 146) hx hb d_D_holds_99 (by decide) ?_
      exact J_5 x_1 _ _ _ ⟨by simp only [if_neg c_7, if_neg c_8, if_neg c_9, if_pos c_14], hP, hD, hS, (lv_sub hl [2, 3, 1, 0] rfl)⟩
    by_cases c_15 : (p0 &&& (7 : Int32)) = (4 : Int32)
    · refine lv_tableIn (tgt := 102) hx hb d_D_holds_21 (by rw [c_15]; decide) (by rw [c_15]; decide) (by rw [c_15]; rfl) (by decide) ?_
      refine lv_aload_n hx hb d_D_holds_102 rfl (lv_at hl 1 rfl) ?_
      refine va_get (D := D) (ci := 6) (v := .int (st.1 16)) (C := "WindowMachineModel") (T := T_D) (N := 31) hx hb ht zi_D hown hK hP 0 rfl rfl 24 (by decide) (ht _ zw_878) (fun _ h9 => h9) rfl d_D_holds_103 ?_
      refine zcut (X := Int32) (G := fun v9 H locs ls => v9 = (if (st.1 16) = (0 : Int32) then (if (st.1 14) = (0 : Int32) then (0 : Int32) else (1 : Int32)) else (1 : Int32)) ∧ va_P D vwCl (wD h c st) H ∧ va_D A (wD h c st) ∧ va_S A s.heap H locs ∧ lv_has ls 4 [(0, .ref (h 20)), (1, .int p0), (2, .int x_1)]) (fr := fun v9 ls => F0 m 121 ls [.int v9]) (fun J_17 => ?_) (fun v9 H locs ls hG => ?_)
      · refine lv_if_ne (tgt := 116) hx hb d_D_holds_106 (by decide) (fun c_18 => ?_) (fun c_18 => ?_)
        · refine lv_iconst (v := (1 : Int32)) hx hb d_D_holds_116 (by decide) ?_
          refine lv_goto (tgt := 121) hx hb d_D_holds_117 (by decide) ?_
          exact J_17 (1 : Int32) _ _ _ ⟨by simp only [if_neg c_18], hP, hD, hS, (lv_sub hl [1, 2, 0] rfl)⟩
        refine lv_aload_n hx hb d_D_holds_109 rfl (lv_at hl 1 rfl) ?_
        refine va_get (D := D) (ci := 6) (v := .int (st.1 14)) (C := "WindowMachineModel") (T := T_D) (N := 31) hx hb ht zi_D hown hK hP 0 rfl rfl 22 (by decide) (ht _ zw_876) (fun _ h9 => h9) rfl d_D_holds_110 ?_
        refine lv_if_eq (tgt := 120) hx hb d_D_holds_113 (by decide) (fun c_19 => ?_) (fun c_19 => ?_)
        · refine lv_iconst (v := (0 : Int32)) hx hb d_D_holds_120 (by decide) ?_
          exact J_17 (0 : Int32) _ _ _ ⟨by simp only [if_pos c_18, if_pos c_19], hP, hD, hS, (lv_sub hl [1, 2, 0] rfl)⟩
        refine lv_iconst (v := (1 : Int32)) hx hb d_D_holds_116 (by decide) ?_
        refine lv_goto (tgt := 121) hx hb d_D_holds_117 (by decide) ?_
        exact J_17 (1 : Int32) _ _ _ ⟨by simp only [if_pos c_18, if_neg c_19], hP, hD, hS, (lv_sub hl [1, 2, 0] rfl)⟩
      obtain ⟨x_16, rfl⟩ : ∃ z, z = v9 := ⟨_, rfl⟩
      obtain ⟨ex_16, hP, hD, hS, hl⟩ := hG
      subst ex_16
      refine lv_istore_n (lv' := [(3, .int (if (st.1 16) = (0 : Int32) then (if (st.1 14) = (0 : Int32) then (0 : Int32) else (1 : Int32)) else (1 : Int32))), (0, .ref (h 20)), (1, .int p0), (2, .int x_1)]) hx hb d_D_holds_121 rfl hl (by decide) rfl (fun ls hl => ?_)
      refine lv_goto (tgt := 146) hx hb d_D_holds_122 (by decide) ?_
      exact J_5 (if (st.1 16) = (0 : Int32) then (if (st.1 14) = (0 : Int32) then (0 : Int32) else (1 : Int32)) else (1 : Int32)) _ _ _ ⟨by simp only [if_neg c_7, if_neg c_8, if_neg c_9, if_neg c_14, if_pos c_15], hP, hD, hS, (lv_sub hl [1, 2, 3, 0] rfl)⟩
    by_cases c_20 : (p0 &&& (7 : Int32)) = (5 : Int32)
    · refine lv_tableIn (tgt := 125) hx hb d_D_holds_21 (by rw [c_20]; decide) (by rw [c_20]; decide) (by rw [c_20]; rfl) (by decide) ?_
      refine lv_aload_n hx hb d_D_holds_125 rfl (lv_at hl 1 rfl) ?_
      refine va_get (D := D) (ci := 6) (v := .int (st.1 16)) (C := "WindowMachineModel") (T := T_D) (N := 31) hx hb ht zi_D hown hK hP 0 rfl rfl 24 (by decide) (ht _ zw_878) (fun _ h9 => h9) rfl d_D_holds_126 ?_
      refine lv_istore_n (lv' := [(3, .int (st.1 16)), (2, .int x_1), (0, .ref (h 20)), (1, .int p0)]) hx hb d_D_holds_129 rfl hl (by decide) rfl (fun ls hl => ?_)
      refine lv_goto (tgt := 146) hx hb d_D_holds_130 (by decide) ?_
      exact J_5 (st.1 16) _ _ _ ⟨by simp only [if_neg c_7, if_neg c_8, if_neg c_9, if_neg c_14, if_neg c_15, if_pos c_20], hP, hD, hS, (lv_sub hl [2, 3, 1, 0] rfl)⟩
    by_cases c_21 : (p0 &&& (7 : Int32)) = (6 : Int32)
    · refine lv_tableIn (tgt := 133) hx hb d_D_holds_21 (by rw [c_21]; decide) (by rw [c_21]; decide) (by rw [c_21]; rfl) (by decide) ?_
      refine lv_aload_n hx hb d_D_holds_133 rfl (lv_at hl 1 rfl) ?_
      refine va_get (D := D) (ci := 6) (v := .int (st.1 13)) (C := "WindowMachineModel") (T := T_D) (N := 31) hx hb ht zi_D hown hK hP 0 rfl rfl 21 (by decide) (ht _ zw_875) (fun _ h9 => h9) rfl d_D_holds_134 ?_
      refine lv_istore_n (lv' := [(3, .int (st.1 13)), (2, .int x_1), (0, .ref (h 20)), (1, .int p0)]) hx hb d_D_holds_137 rfl hl (by decide) rfl (fun ls hl => ?_)
      refine lv_goto (tgt := 146) hx hb d_D_holds_138 (by decide) ?_
      exact J_5 (st.1 13) _ _ _ ⟨by simp only [if_neg c_7, if_neg c_8, if_neg c_9, if_neg c_14, if_neg c_15, if_neg c_20, if_pos c_21], hP, hD, hS, (lv_sub hl [2, 3, 1, 0] rfl)⟩
    refine lv_tableOut (tgt := 141) hx hb d_D_holds_21 (by have := lv_neT c_7 (a := 0) (by decide); have := lv_neT c_8 (a := 1) (by decide); have := lv_neT c_9 (a := 2) (by decide); have := lv_neT c_14 (a := 3) (by decide); have := lv_neT c_15 (a := 4) (by decide); have := lv_neT c_20 (a := 5) (by decide); have := lv_neT c_21 (a := 6) (by decide); omega) (by decide) ?_
    refine lv_aload_n hx hb d_D_holds_141 rfl (lv_at hl 1 rfl) ?_
    refine va_get (D := D) (ci := 6) (v := .int (st.1 15)) (C := "WindowMachineModel") (T := T_D) (N := 31) hx hb ht zi_D hown hK hP 0 rfl rfl 23 (by decide) (ht _ zw_877) (fun _ h9 => h9) rfl d_D_holds_142 ?_
    refine lv_istore_n (lv' := [(3, .int (st.1 15)), (2, .int x_1), (0, .ref (h 20)), (1, .int p0)]) hx hb d_D_holds_145 rfl hl (by decide) rfl (fun ls hl => ?_)
    exact J_5 (st.1 15) _ _ _ ⟨by simp only [if_neg c_7, if_neg c_8, if_neg c_9, if_neg c_14, if_neg c_15, if_neg c_20, if_neg c_21], hP, hD, hS, (lv_sub hl [2, 3, 1, 0] rfl)⟩
  obtain ⟨x_4, rfl⟩ : ∃ z, z = v9 := ⟨_, rfl⟩
  obtain ⟨ex_4, hP, hD, hS, hl⟩ := hG
  refine lv_iload_n hx hb d_D_holds_146 rfl (lv_at hl 3 rfl) ?_
  refine lv_iload_n hx hb d_D_holds_147 rfl (lv_at hl 1 rfl) ?_
  refine lv_bipush (v := (7 : Int32)) hx hb d_D_holds_148 (by decide) ?_
  refine zcut (X := Int32) (G := fun v9 H locs ls => v9 = (if p0 ≤ (7 : Int32) then (0 : Int32) else (1 : Int32)) ∧ va_P D vwCl (wD h c st) H ∧ va_D A (wD h c st) ∧ va_S A s.heap H locs ∧ lv_has ls 4 [(0, .ref (h 20)), (1, .int p0), (2, .int x_1), (3, .int x_4)]) (fr := fun v9 ls => F0 m 158 ls [.int v9, .int x_4]) (fun J_23 => ?_) (fun v9 H locs ls hG => ?_)
  · refine lv_icmp_le (tgt := 157) hx hb d_D_holds_150 (by decide) (fun c_24 => ?_) (fun c_24 => ?_)
    · refine lv_iconst (v := (0 : Int32)) hx hb d_D_holds_157 (by decide) ?_
      exact J_23 (0 : Int32) _ _ _ ⟨by simp only [if_pos c_24], hP, hD, hS, hl⟩
    refine lv_iconst (v := (1 : Int32)) hx hb d_D_holds_153 (by decide) ?_
    refine lv_goto (tgt := 158) hx hb d_D_holds_154 (by decide) ?_
    exact J_23 (1 : Int32) _ _ _ ⟨by simp only [if_neg c_24], hP, hD, hS, hl⟩
  obtain ⟨x_22, rfl⟩ : ∃ z, z = v9 := ⟨_, rfl⟩
  obtain ⟨ex_22, hP, hD, hS, hl⟩ := hG
  have zbx_22 : zB x_22 := by rw [ex_22]; repeat' first | exact zB0 | exact zB1 | assumption | apply zB_ite
  refine zcut (X := Int32) (G := fun v9 H locs ls => v9 = (if x_4 = x_22 then (0 : Int32) else (1 : Int32)) ∧ va_P D vwCl (wD h c st) H ∧ va_D A (wD h c st) ∧ va_S A s.heap H locs ∧ lv_has ls 4 [(0, .ref (h 20)), (1, .int p0), (2, .int x_1), (3, .int x_4)]) (fr := fun v9 ls => F0 m 166 ls [.int v9]) (fun J_26 => ?_) (fun v9 H locs ls hG => ?_)
  · refine lv_icmp_eq (tgt := 165) hx hb d_D_holds_158 (by decide) (fun c_27 => ?_) (fun c_27 => ?_)
    · refine lv_iconst (v := (0 : Int32)) hx hb d_D_holds_165 (by decide) ?_
      exact J_26 (0 : Int32) _ _ _ ⟨by simp only [if_pos c_27], hP, hD, hS, hl⟩
    refine lv_iconst (v := (1 : Int32)) hx hb d_D_holds_161 (by decide) ?_
    refine lv_goto (tgt := 166) hx hb d_D_holds_162 (by decide) ?_
    exact J_26 (1 : Int32) _ _ _ ⟨by simp only [if_neg c_27], hP, hD, hS, hl⟩
  obtain ⟨x_25, rfl⟩ : ∃ z, z = v9 := ⟨_, rfl⟩
  obtain ⟨ex_25, hP, hD, hS, hl⟩ := hG
  have zbx_25 : zB x_25 := by rw [ex_25]; repeat' first | exact zB0 | exact zB1 | assumption | apply zB_ite
  exact zl_z (u := ()) hx hb hr (zbx_25).n hlocks hS hP hD (by simp only [m_holds, ← ex_1, ← ex_4, ← ex_22, ← ex_25]) d_D_holds_166
theorem d_D_flags_0 : decode c_D_flags 0 = .ok (.aload_n 0, 1) := by decide +kernel
theorem d_D_flags_1 : decode c_D_flags 1 = .ok (.lload_n 1, 1) := by decide +kernel
theorem d_D_flags_2 : decode c_D_flags 2 = .ok (.l2i, 1) := by decide +kernel
theorem d_D_flags_3 : decode c_D_flags 3 = .ok (.ifCond .ge 7, 3) := by decide +kernel
theorem d_D_flags_6 : decode c_D_flags 6 = .ok (.iconst 1, 1) := by decide +kernel
theorem d_D_flags_7 : decode c_D_flags 7 = .ok (.goto 4, 3) := by decide +kernel
theorem d_D_flags_10 : decode c_D_flags 10 = .ok (.iconst 0, 1) := by decide +kernel
theorem d_D_flags_11 : decode c_D_flags 11 = .ok (.putfield 255, 3) := by decide +kernel
theorem d_D_flags_14 : decode c_D_flags 14 = .ok (.aload_n 0, 1) := by decide +kernel
theorem d_D_flags_15 : decode c_D_flags 15 = .ok (.lload_n 1, 1) := by decide +kernel
theorem d_D_flags_16 : decode c_D_flags 16 = .ok (.l2i, 1) := by decide +kernel
theorem d_D_flags_17 : decode c_D_flags 17 = .ok (.ifCond .ne 7, 3) := by decide +kernel
theorem d_D_flags_20 : decode c_D_flags 20 = .ok (.iconst 1, 1) := by decide +kernel
theorem d_D_flags_21 : decode c_D_flags 21 = .ok (.goto 4, 3) := by decide +kernel
theorem d_D_flags_24 : decode c_D_flags 24 = .ok (.iconst 0, 1) := by decide +kernel
theorem d_D_flags_25 : decode c_D_flags 25 = .ok (.putfield 259, 3) := by decide +kernel
theorem d_D_flags_28 : decode c_D_flags 28 = .ok (.aload_n 0, 1) := by decide +kernel
theorem d_D_flags_29 : decode c_D_flags 29 = .ok (.iload_n 3, 1) := by decide +kernel
theorem d_D_flags_30 : decode c_D_flags 30 = .ok (.putfield 262, 3) := by decide +kernel
theorem d_D_flags_33 : decode c_D_flags 33 = .ok (.aload_n 0, 1) := by decide +kernel
theorem d_D_flags_34 : decode c_D_flags 34 = .ok (.iload 4, 2) := by decide +kernel
theorem d_D_flags_36 : decode c_D_flags 36 = .ok (.putfield 265, 3) := by decide +kernel
theorem d_D_flags_39 : decode c_D_flags 39 = .ok (.return_, 1) := by decide +kernel
theorem kd_D_flags : (y_D_flags).cls = "WindowMachineModel" ∧ (y_D_flags).cls ≠ "java/lang/invoke/MethodHandle" ∧ (y_D_flags).cls ≠ "java/lang/invoke/VarHandle" ∧ (parseMethodDescriptor (y_D_flags).desc).map (fun d => d.parameters.length) = some 3 := by decide +kernel
def m_flags (st : SD) (p0 : Int64) (p1 : Int32) (p2 : Int32) : SD := (let x_1 := (if (0 : Int32) ≤ p0.toInt32 then (0 : Int32) else (1 : Int32)); (let x_4 := (if p0.toInt32 = (0 : Int32) then (1 : Int32) else (0 : Int32)); (upd (upd (upd (upd st.1 13 x_1) 14 x_4) 15 p1) 16 p2, st.2.1, st.2.2.1, st.2.2.2.1, st.2.2.2.2.1, st.2.2.2.2.2)))
set_option maxHeartbeats 4000000 in
set_option maxRecDepth 100000 in
theorem mt_D_flags (l : Launch) (D : va_G) (h : Nat → Nat) (c : Nat → ClassId) (sz : Nat) (st : SD) (p0 : Int64) (p1 : Int32) (p2 : Int32) (zbp1 : zB p1) (zbp2 : zB p2) : Met l y_D_flags w_D_flags ({ frames := 0, cells := 0, slots := 0, locals := 0 }) (va_Pc [.ref (h 20), .long p0, .int p1, .int p2] (zw_pre D vwCl [(c 21, .long), (c 22, .int), (c 23, .int), (c 24, .int), (c 25, .int), (c 26, .int), (c 27, .int), (c 28, .int)] sz (wD h c st) (fun _ => True))) (va_Qv (fun (u : SD) => u = m_flags st p0 p1 p2) (fun u t => zw_at D vwCl (va_A (wD h c st) sz) ((fun (u : SD) => wD h c u) u) t) (va_A (wD h c st) sz)) 0 0 (va_A (wD h c st) sz) := by
  refine zm (Qf := fun A => va_Qv (fun (u : SD) => u = m_flags st p0 p1 p2) (fun u t => zw_at D vwCl A ((fun (u : SD) => wD h c u) u) t) A) (Zf := fun _ _ => True) (cc := c_D_flags) (nL := 5) (ret := none) (by decide) rfl (Nat.le_of_ble_eq_true rfl) ?_
  intro p e s m below meth c9 A H locs ls hx hb hml hown hts hr hlocks hA hK hP hD hS hZ hl
  have hl : lv_has ls 5 [(0, .ref (h 20)), (1, .long p0), (3, .int p1), (4, .int p2)] := hl
  have ht : ∀ w9 ∈ zT, w9.before _ s = true := fun w9 h9 => hts w9 (List.mem_cons_of_mem _ h9)
  refine lv_aload_n hx hb d_D_flags_0 rfl (lv_at hl 0 rfl) ?_
  refine lv_lload_n hx hb d_D_flags_1 rfl (lv_at hl 1 rfl) ?_
  refine lv_l2i (v := p0.toInt32) hx hb d_D_flags_2 rfl ?_
  refine zcut (X := Int32) (G := fun v9 H locs ls => v9 = (if (0 : Int32) ≤ p0.toInt32 then (0 : Int32) else (1 : Int32)) ∧ va_P D vwCl (wD h c st) H ∧ va_D A (wD h c st) ∧ va_S A s.heap H locs ∧ lv_has ls 5 [(0, .ref (h 20)), (1, .long p0), (3, .int p1), (4, .int p2)]) (fr := fun v9 ls => F0 m 11 ls [.int v9, .ref (h 20)]) (fun J_2 => ?_) (fun v9 H locs ls hG => ?_)
  · refine lv_if_ge (tgt := 10) hx hb d_D_flags_3 (by decide) (fun c_3 => ?_) (fun c_3 => ?_)
    · refine lv_iconst (v := (0 : Int32)) hx hb d_D_flags_10 (by decide) ?_
      exact J_2 (0 : Int32) _ _ _ ⟨by simp only [if_pos c_3], hP, hD, hS, hl⟩
    refine lv_iconst (v := (1 : Int32)) hx hb d_D_flags_6 (by decide) ?_
    refine lv_goto (tgt := 11) hx hb d_D_flags_7 (by decide) ?_
    exact J_2 (1 : Int32) _ _ _ ⟨by simp only [if_neg c_3], hP, hD, hS, hl⟩
  obtain ⟨x_1, rfl⟩ : ∃ z, z = v9 := ⟨_, rfl⟩
  obtain ⟨ex_1, hP, hD, hS, hl⟩ := hG
  have zbx_1 : zB x_1 := by rw [ex_1]; repeat' first | exact zB0 | exact zB1 | assumption | apply zB_ite
  refine va_put (D := D) (ci := 6) (v := .int x_1) (ty := .boolean) (C := "WindowMachineModel") (T := T_D) (N := 31) hx hb ht zi_D ty_D tyok_D nm_D hown hK hP hD hS 0 rfl rfl 21 (by decide) (ht _ zw_875) (fun _ h9 => h9) rfl (by decide +kernel) (zbx_1).n (zbx_1).f (Nat.le_of_ble_eq_true rfl) d_D_flags_11 (fun H locs hP hD hS => ?_)
  have hP : va_P D vwCl (wD h c (upd st.1 13 x_1, st.2.1, st.2.2.1, st.2.2.2.1, st.2.2.2.2.1, st.2.2.2.2.2)) H := hP
  have hD : va_D A (wD h c (upd st.1 13 x_1, st.2.1, st.2.2.1, st.2.2.2.1, st.2.2.2.2.1, st.2.2.2.2.2)) := hD
  refine lv_aload_n hx hb d_D_flags_14 rfl (lv_at hl 0 rfl) ?_
  refine lv_lload_n hx hb d_D_flags_15 rfl (lv_at hl 1 rfl) ?_
  refine lv_l2i (v := p0.toInt32) hx hb d_D_flags_16 rfl ?_
  refine zcut (X := Int32) (G := fun v9 H locs ls => v9 = (if p0.toInt32 = (0 : Int32) then (1 : Int32) else (0 : Int32)) ∧ va_P D vwCl (wD h c (upd st.1 13 x_1, st.2.1, st.2.2.1, st.2.2.2.1, st.2.2.2.2.1, st.2.2.2.2.2)) H ∧ va_D A (wD h c (upd st.1 13 x_1, st.2.1, st.2.2.1, st.2.2.2.1, st.2.2.2.2.1, st.2.2.2.2.2)) ∧ va_S A s.heap H locs ∧ lv_has ls 5 [(0, .ref (h 20)), (1, .long p0), (3, .int p1), (4, .int p2)]) (fr := fun v9 ls => F0 m 25 ls [.int v9, .ref (h 20)]) (fun J_5 => ?_) (fun v9 H locs ls hG => ?_)
  · refine lv_if_ne (tgt := 24) hx hb d_D_flags_17 (by decide) (fun c_6 => ?_) (fun c_6 => ?_)
    · refine lv_iconst (v := (0 : Int32)) hx hb d_D_flags_24 (by decide) ?_
      exact J_5 (0 : Int32) _ _ _ ⟨by simp only [if_neg c_6], hP, hD, hS, hl⟩
    refine lv_iconst (v := (1 : Int32)) hx hb d_D_flags_20 (by decide) ?_
    refine lv_goto (tgt := 25) hx hb d_D_flags_21 (by decide) ?_
    exact J_5 (1 : Int32) _ _ _ ⟨by simp only [if_pos c_6], hP, hD, hS, hl⟩
  obtain ⟨x_4, rfl⟩ : ∃ z, z = v9 := ⟨_, rfl⟩
  obtain ⟨ex_4, hP, hD, hS, hl⟩ := hG
  have zbx_4 : zB x_4 := by rw [ex_4]; repeat' first | exact zB0 | exact zB1 | assumption | apply zB_ite
  refine va_put (D := D) (ci := 6) (v := .int x_4) (ty := .boolean) (C := "WindowMachineModel") (T := T_D) (N := 31) hx hb ht zi_D ty_D tyok_D nm_D hown hK hP hD hS 0 rfl rfl 22 (by decide) (ht _ zw_876) (fun _ h9 => h9) rfl (by decide +kernel) (zbx_4).n (zbx_4).f (Nat.le_of_ble_eq_true rfl) d_D_flags_25 (fun H locs hP hD hS => ?_)
  have hP : va_P D vwCl (wD h c (upd (upd st.1 13 x_1) 14 x_4, st.2.1, st.2.2.1, st.2.2.2.1, st.2.2.2.2.1, st.2.2.2.2.2)) H := hP
  have hD : va_D A (wD h c (upd (upd st.1 13 x_1) 14 x_4, st.2.1, st.2.2.1, st.2.2.2.1, st.2.2.2.2.1, st.2.2.2.2.2)) := hD
  refine lv_aload_n hx hb d_D_flags_28 rfl (lv_at hl 0 rfl) ?_
  refine lv_iload_n hx hb d_D_flags_29 rfl (lv_at hl 2 rfl) ?_
  refine va_put (D := D) (ci := 6) (v := .int p1) (ty := .boolean) (C := "WindowMachineModel") (T := T_D) (N := 31) hx hb ht zi_D ty_D tyok_D nm_D hown hK hP hD hS 0 rfl rfl 23 (by decide) (ht _ zw_877) (fun _ h9 => h9) rfl (by decide +kernel) (zbp1).n (zbp1).f (Nat.le_of_ble_eq_true rfl) d_D_flags_30 (fun H locs hP hD hS => ?_)
  have hP : va_P D vwCl (wD h c (upd (upd (upd st.1 13 x_1) 14 x_4) 15 p1, st.2.1, st.2.2.1, st.2.2.2.1, st.2.2.2.2.1, st.2.2.2.2.2)) H := hP
  have hD : va_D A (wD h c (upd (upd (upd st.1 13 x_1) 14 x_4) 15 p1, st.2.1, st.2.2.1, st.2.2.2.1, st.2.2.2.2.1, st.2.2.2.2.2)) := hD
  refine lv_aload_n hx hb d_D_flags_33 rfl (lv_at hl 0 rfl) ?_
  refine lv_iload hx hb d_D_flags_34 (lv_at hl 3 rfl) ?_
  refine va_put (D := D) (ci := 6) (v := .int p2) (ty := .boolean) (C := "WindowMachineModel") (T := T_D) (N := 31) hx hb ht zi_D ty_D tyok_D nm_D hown hK hP hD hS 0 rfl rfl 24 (by decide) (ht _ zw_878) (fun _ h9 => h9) rfl (by decide +kernel) (zbp2).n (zbp2).f (Nat.le_of_ble_eq_true rfl) d_D_flags_36 (fun H locs hP hD hS => ?_)
  have hP : va_P D vwCl (wD h c (upd (upd (upd (upd st.1 13 x_1) 14 x_4) 15 p1) 16 p2, st.2.1, st.2.2.1, st.2.2.2.1, st.2.2.2.2.1, st.2.2.2.2.2)) H := hP
  have hD : va_D A (wD h c (upd (upd (upd (upd st.1 13 x_1) 14 x_4) 15 p1) 16 p2, st.2.1, st.2.2.1, st.2.2.2.1, st.2.2.2.2.1, st.2.2.2.2.2)) := hD
  exact zl_v (u := (upd (upd (upd (upd st.1 13 x_1) 14 x_4) 15 p1) 16 p2, st.2.1, st.2.2.1, st.2.2.2.1, st.2.2.2.2.1, st.2.2.2.2.2)) hx hb hr hlocks hS hP hD (by simp only [m_flags, ← ex_1, ← ex_4]) d_D_flags_39
