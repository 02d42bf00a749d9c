theorem d_D_last_0 : decode c_D_last 0 = .ok (.aload_n 0, 1) := by decide +kernel
theorem d_D_last_1 : decode c_D_last 1 = .ok (.getfield 202, 3) := by decide +kernel
theorem d_D_last_4 : decode c_D_last 4 = .ok (.ifCond .ge 10, 3) := by decide +kernel
theorem d_D_last_7 : decode c_D_last 7 = .ok (.aload_n 0, 1) := by decide +kernel
theorem d_D_last_8 : decode c_D_last 8 = .ok (.invokevirtual 446, 3) := by decide +kernel
theorem d_D_last_11 : decode c_D_last 11 = .ok (.goto 4, 3) := by decide +kernel
theorem d_D_last_14 : decode c_D_last 14 = .ok (.iconst 0, 1) := by decide +kernel
theorem d_D_last_15 : decode c_D_last 15 = .ok (.ireturn, 1) := by decide +kernel
theorem kd_D_last : (y_D_last).cls = "WindowMachineModel" ∧ (y_D_last).cls ≠ "java/lang/invoke/MethodHandle" ∧ (y_D_last).cls ≠ "java/lang/invoke/VarHandle" ∧ (parseMethodDescriptor (y_D_last).desc).map (fun d => d.parameters.length) = some 0 := by decide +kernel
def m_last (st : SD) : Int32 × SD := (if (0 : Int32) ≤ (st.1 2) then ((0 : Int32), st) else (let r_2 := (m_either st).1; (let u_2 := (m_either st).2; (r_2, u_2))))
set_option maxHeartbeats 4000000 in
set_option maxRecDepth 100000 in
theorem mt_D_last (l : Launch) (D : va_G) (h : Nat → Nat) (c : Nat → ClassId) (sz : Nat) (st : SD) (k9 : Nat) (hk : k9 < 1800) (hL : okL k9 st) : Met l y_D_last w_D_last ({ frames := 4, cells := 0, slots := 0, locals := 94 }) (va_Pc [.ref (h 20)] (zw_pre D vwCl [(c 21, .long), (c 22, .int), (c 23, .int), (c 24, .int), (c 25, .int), (c 26, .int), (c 27, .int), (c 28, .int)] sz (wD h c st) (fun _ => True))) (va_Qi (fun r (u : SD) => r = (m_last st).1 ∧ u = (m_last st).2) (fun u t => zw_at D vwCl (va_A (wD h c st) sz) ((fun (u : SD) => wD h c u) u) t) (va_A (wD h c st) sz)) 0 0 (va_A (wD h c st) sz) := by
  refine zm (Qf := fun A => va_Qi (fun r (u : SD) => r = (m_last st).1 ∧ u = (m_last st).2) (fun u t => zw_at D vwCl A ((fun (u : SD) => wD h c u) u) t) A) (Zf := fun _ _ => True) (cc := c_D_last) (nL := 1) (ret := (some .int)) (by decide) rfl (Nat.le_of_ble_eq_true rfl) ?_
  intro p e s m below meth c9 A H locs ls hx hb hml hown hts hr hlocks hA hK hP hD hS hZ hl
  have hl : lv_has ls 1 [(0, .ref (h 20))] := hl
  have ht : ∀ w9 ∈ zT, w9.before _ s = true := fun w9 h9 => hts w9 (List.mem_cons_of_mem _ h9)
  refine lv_aload_n hx hb d_D_last_0 rfl (lv_at hl 0 rfl) ?_
  refine va_get (D := D) (ci := 6) (v := .int (st.1 2)) (C := "WindowMachineModel") (T := T_D) (N := 31) hx hb ht zi_D hown hK hP 0 rfl rfl 5 (by decide) (ht _ zw_859) (fun _ h9 => h9) rfl d_D_last_1 ?_
  refine lv_if_ge (tgt := 14) hx hb d_D_last_4 (by decide) (fun c_1 => ?_) (fun c_1 => ?_)
  · refine lv_iconst (v := (0 : Int32)) hx hb d_D_last_14 (by decide) ?_
    exact zl_i (u := st) hx hb hr hlocks hS hP hD (⟨by simp only [m_last, if_pos c_1], by simp only [m_last, if_pos c_1]⟩) d_D_last_15
  refine lv_aload_n hx hb d_D_last_7 rfl (lv_at hl 0 rfl) ?_
  refine zc_i (w2 := fun u9 => wD h c u9) (va_runV (As := []) (rest := []) ⟨hx, hb, hml, hown, ht⟩ (mt_D_either l D h c H.size st _ (by omega) hL) (cwV 0 ht (zgV zw_1171 zw_1173 zs_86 zw_7 zw_1174) rfl rfl rfl kd_D_either ⟨Nat.le_of_ble_eq_true rfl, Nat.le_of_ble_eq_true rfl⟩) ⟨zw_blind zw_tt, va_recv (hK.sub (tys' := [(c 21, .long), (c 22, .int), (c 23, .int), (c 24, .int), (c 25, .int), (c 26, .int), (c 27, .int), (c 28, .int)]) [0, 1, 2, 3, 4, 5, 6, 7] rfl) (hP.sub (ws' := wD h c st) [0, 1, 2, 3, 4, 5, 6, 7, 8] rfl) (ci := 6) (q0 := 0) rfl rfl, zw_go (hP.sub (ws' := wD h c st) [0, 1, 2, 3, 4, 5, 6, 7, 8] rfl) (hD.sub (ws' := wD h c st) [0, 1, 2, 3, 4, 5, 6, 7, 8] (by decide) rfl) (hK.sub (tys' := [(c 21, .long), (c 22, .int), (c 23, .int), (c 24, .int), (c 25, .int), (c 26, .int), (c 27, .int), (c 28, .int)]) [0, 1, 2, 3, 4, 5, 6, 7] rfl) (fun _ _ _ => trivial)⟩ rfl rfl hl.1 rfl (lv_room (Nat.le_of_ble_eq_true rfl)) d_D_last_8 ⟨Nat.le_of_ble_eq_true rfl, Nat.le_of_ble_eq_true rfl⟩) hP hD hS hA [0, 1, 2, 3, 4, 5, 6, 7, 8] [] [0, 1, 2, 3, 4, 5, 6, 7, 8] rfl rfl (by decide) (by decide) (by decide) (fun _ => rfl) (fun r_2 u_2 H locs hw hP hD hS => ?_)
  obtain ⟨er_2, eu_2⟩ := hw
  have ok_2 : okL (k9 + 13) u_2 := by rw [eu_2]; exact (ol_either (by omega) hL)
  refine lv_goto (tgt := 15) hx hb d_D_last_11 (by decide) ?_
  exact zl_i (u := u_2) hx hb hr hlocks hS hP hD (⟨by simp only [m_last, ← er_2, ← eu_2, if_neg c_1], by simp only [m_last, ← er_2, ← eu_2, if_neg c_1]⟩) d_D_last_15
theorem ol_last {k : Nat} {st : SD} (hk : k < 1800) (h : okL k st) : okL (k + 13) (m_last st).2 := by
  unfold m_last
  dsimp only
  by_cases c : (0 : Int32) ≤ st.1 2
  · rw [if_pos c]
    dsimp only
    exact ol_mono h (by omega)
  · rw [if_neg c]
    dsimp only
    with_reducible exact ol_either (by omega) h
