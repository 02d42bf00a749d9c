theorem d_D_here_0 : decode c_D_here 0 = .ok (.aload_n 0, 1) := by decide +kernel
theorem d_D_here_1 : decode c_D_here 1 = .ok (.getfield 413, 3) := by decide +kernel
theorem d_D_here_4 : decode c_D_here 4 = .ok (.aload_n 0, 1) := by decide +kernel
theorem d_D_here_5 : decode c_D_here 5 = .ok (.getfield 410, 3) := by decide +kernel
theorem d_D_here_8 : decode c_D_here 8 = .ok (.if_icmp .ge 15, 3) := by decide +kernel
theorem d_D_here_11 : decode c_D_here 11 = .ok (.aload_n 0, 1) := by decide +kernel
theorem d_D_here_12 : decode c_D_here 12 = .ok (.getfield 206, 3) := by decide +kernel
theorem d_D_here_15 : decode c_D_here 15 = .ok (.aload_n 0, 1) := by decide +kernel
theorem d_D_here_16 : decode c_D_here 16 = .ok (.getfield 413, 3) := by decide +kernel
theorem d_D_here_19 : decode c_D_here 19 = .ok (.iaload, 1) := by decide +kernel
theorem d_D_here_20 : decode c_D_here 20 = .ok (.goto 4, 3) := by decide +kernel
theorem d_D_here_23 : decode c_D_here 23 = .ok (.iconst 0, 1) := by decide +kernel
theorem d_D_here_24 : decode c_D_here 24 = .ok (.ireturn, 1) := by decide +kernel
theorem kd_D_here : (y_D_here).cls = "WindowMachineModel" ∧ (y_D_here).cls ≠ "java/lang/invoke/MethodHandle" ∧ (y_D_here).cls ≠ "java/lang/invoke/VarHandle" ∧ (parseMethodDescriptor (y_D_here).desc).map (fun d => d.parameters.length) = some 0 := by decide +kernel
def m_here (st : SD) : Int32 := (let x_1 := (if (st.1 1) ≤ (st.1 3) then (0 : Int32) else st.2.1 (st.1 3).toNatClampNeg); x_1)
set_option maxHeartbeats 4000000 in
set_option maxRecDepth 100000 in
theorem mt_D_here (l : Launch) (D : va_G) (h : Nat → Nat) (c : Nat → ClassId) (sz : Nat) (st : SD) (hA9 : 0 ≤ (st.1 3).toInt ∧ (st.1 1).toInt ≤ 40) : Met l y_D_here w_D_here ({ frames := 0, cells := 0, slots := 0, locals := 0 }) (va_Pc [.ref (h 20)] (zw_pre D vwCl [(c 21, .long), (c 22, .int), (c 23, .int), (c 24, .int), (c 25, .int), (c 26, .int), (c 27, .int), (c 28, .int)] sz (wD h c st) (fun _ => True))) (va_Qi (fun r (_ : Unit) => r = m_here st) (fun u t => zw_at D vwCl (va_A (wD h c st) sz) ((fun (_ : Unit) => wD h c st) u) t) (va_A (wD h c st) sz)) 0 0 (va_A (wD h c st) sz) := by
  refine zm (Qf := fun A => va_Qi (fun r (_ : Unit) => r = m_here st) (fun u t => zw_at D vwCl A ((fun (_ : Unit) => wD h c st) u) t) A) (Zf := fun _ _ => True) (cc := c_D_here) (nL := 1) (ret := (some .int)) (by decide) rfl (Nat.le_of_ble_eq_true rfl) ?_
  intro p e s m below meth c9 A H locs ls hx hb hml hown hts hr hlocks hA hK hP hD hS hZ hl
  have hl : lv_has ls 1 [(0, .ref (h 20))] := hl
  have ht : ∀ w9 ∈ zT, w9.before _ s = true := fun w9 h9 => hts w9 (List.mem_cons_of_mem _ h9)
  refine lv_aload_n hx hb d_D_here_0 rfl (lv_at hl 0 rfl) ?_
  refine va_get (D := D) (ci := 6) (v := .int (st.1 3)) (C := "WindowMachineModel") (T := T_D) (N := 31) hx hb ht zi_D hown hK hP 0 rfl rfl 6 (by decide) (ht _ zw_860) (fun _ h9 => h9) rfl d_D_here_1 ?_
  refine lv_aload_n hx hb d_D_here_4 rfl (lv_at hl 0 rfl) ?_
  refine va_get (D := D) (ci := 6) (v := .int (st.1 1)) (C := "WindowMachineModel") (T := T_D) (N := 31) hx hb ht zi_D hown hK hP 0 rfl rfl 4 (by decide) (ht _ zw_858) (fun _ h9 => h9) rfl d_D_here_5 ?_
  refine zcut (X := Int32) (G := fun v9 H locs ls => v9 = (if (st.1 1) ≤ (st.1 3) then (0 : Int32) else st.2.1 (st.1 3).toNatClampNeg) ∧ va_P D vwCl (wD h c st) H ∧ va_D A (wD h c st) ∧ va_S A s.heap H locs ∧ lv_has ls 1 [(0, .ref (h 20))]) (fr := fun v9 ls => F0 m 24 ls [.int v9]) (fun J_2 => ?_) (fun v9 H locs ls hG => ?_)
  · refine lv_icmp_ge (tgt := 23) hx hb d_D_here_8 (by decide) (fun c_3 => ?_) (fun c_3 => ?_)
    · refine lv_iconst (v := (0 : Int32)) hx hb d_D_here_23 (by decide) ?_
      exact J_2 (0 : Int32) _ _ _ ⟨by simp only [if_pos c_3], hP, hD, hS, hl⟩
    refine lv_aload_n hx hb d_D_here_11 rfl (lv_at hl 0 rfl) ?_
    refine va_get (D := D) (ci := 6) (v := .ref (h 24)) (C := "WindowMachineModel") (T := T_D) (N := 31) hx hb ht zi_D hown hK hP 0 rfl rfl 7 (by decide) (ht _ zw_861) (fun _ h9 => h9) rfl d_D_here_12 ?_
    refine lv_aload_n hx hb d_D_here_15 rfl (lv_at hl 0 rfl) ?_
    refine va_get (D := D) (ci := 6) (v := .int (st.1 3)) (C := "WindowMachineModel") (T := T_D) (N := 31) hx hb ht zi_D hown hK hP 0 rfl rfl 6 (by decide) (ht _ zw_860) (fun _ h9 => h9) rfl d_D_here_16 ?_
    refine va_iald hx hb hK hP 4 3 rfl rfl (atD_in hA9 c_3) d_D_here_19 ?_
    refine lv_goto (tgt := 24) hx hb d_D_here_20 (by decide) ?_
    exact J_2 (st.2.1 (st.1 3).toNatClampNeg) _ _ _ ⟨by simp only [if_neg c_3], hP, hD, hS, hl⟩
  obtain ⟨x_1, rfl⟩ : ∃ z, z = v9 := ⟨_, rfl⟩
  obtain ⟨ex_1, hP, hD, hS, hl⟩ := hG
  exact zl_i (u := ()) hx hb hr hlocks hS hP hD (by simp only [m_here, ← ex_1]) d_D_here_24
theorem okV_iteD {c : Prop} {d : Decidable c} {a b : SD} (ha : c → okV a) (hb : ¬ c → okV b) : okV (@ite _ c d a b) := by
  by_cases h : c
  · rw [if_pos h]; exact ha h
  · rw [if_neg h]; exact hb h
theorem ov_traps {st : SD} {a b : Int32} (h : okV st) : okV (m_traps st a b) := by
  unfold m_traps
  dsimp only
  repeat' first | with_reducible exact h | with_reducible refine okV_ite ?_ ?_
  exact h
theorem ov_gives {st : SD} {a b v : Int32} (h : okV st) : okV (m_gives st a b v) := by
  unfold m_gives
  dsimp only
  repeat' first | with_reducible exact h | with_reducible refine okV_ite ?_ ?_
  all_goals exact h
theorem ov_flags {st : SD} {r : Int64} {a b : Int32} (h : okV st) : okV (m_flags st r a b) := h
theorem ov_branch {st : SD} {w : Int32} (h : okV st) : okV (m_branch st w) := by
  unfold m_branch
  dsimp only
  unfold okV
  dsimp only
  split <;> exact h
