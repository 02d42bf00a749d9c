/-- the window stays one of the four -/
def okW (st : SP) : Prop := vp_in (st.1 0) 4
theorem wo_deliver {st : SP} {w v : Int32} (h : okW st) : okW (f_deliver st w v).2 := h
theorem wo_call {st : SP} {w : Int32} (h : okW st) : okW (f_call st w).2 := h
theorem wo_changeMode {st : SP} {a b c : Int32} (h : okW st) : okW (f_changeMode st a b c) := h
theorem wo_branch {st : SP} {w : Int32} (h : okW st) : okW (f_branch st w) := by
  unfold f_branch
  dsimp only
  unfold okW
  split <;> exact h
theorem wo_sethi {st : SP} {w : Int32} (h : okW st) : okW (f_sethiOrBranch st w).2 := by
  unfold f_sethiOrBranch
  split
  · exact wo_branch h
  · split <;> exact h
theorem wo_writeY {st : SP} {a b : Int32} (h : okW st) : okW (f_writeY st a b).2 := by
  unfold f_writeY
  split <;> exact h
theorem a31_lt4 {x : Int32} (h : (x &&& (31 : Int32)) < (4 : Int32)) : vp_in (x &&& (31 : Int32)) 4 := by
  obtain ⟨i, hi, e⟩ := vp_in_of (a31_in x) (by omega)
  rw [e] at h ⊢
  exact vp_in_nI ((nI_ltI (by omega) (by omega)).mp h) (by decide)
theorem wo_writeStatus {st : SP} {v : Int32} (h : okW st) : okW (f_writeStatus st v).2 := by
  unfold f_writeStatus
  split
  · exact a31_lt4 ‹_›
  · exact h
theorem wo_writeSpecial {st : SP} {a b : Int32} (h : okW st) : okW (f_writeSpecial st a b).2 := by
  unfold f_writeSpecial
  split
  · exact h
  · split
    · exact wo_writeStatus h
    · split <;> exact h
theorem wo_readSpecial {st : SP} {a b : Int32} (h : okW st) : okW (f_readSpecial st a b).2 := by
  unfold f_readSpecial
  split
  · exact h
  · split
    · exact h
    · split <;> exact h
theorem wo_jump {st : SP} {a b : Int32} (h : okW st) : okW (f_jump st a b).2 := by
  unfold f_jump
  split <;> exact h
theorem wo_returnFromTrap {st : SP} {a : Int32} (h : okW st) : okW (f_returnFromTrap st a).2 := by
  unfold f_returnFromTrap
  split
  · exact h
  · split
    · exact h
    · dsimp only
      split
      · split
        · exact wa_in (st := st) h
        · exact h
      · exact h
theorem wo_moveWindow {st : SP} {a b c d : Int32} (h : okW st) (hb : vp_in b 4) : okW (f_moveWindow st a b c d).2 := by
  unfold f_moveWindow
  split
  · exact hb
  · exact h
theorem wo_reckonInto {st : SP} {a b c d : Int32} (h : okW st) : okW (f_reckonInto st a b c d).2 := by
  unfold f_reckonInto
  repeat' split
  all_goals first | exact h | (unfold okW; dsimp only; (repeat' split) <;> exact h)
theorem wo_multiplyStep {st : SP} {a b c : Int32} (h : okW st) : okW (f_multiplyStep st a b c).2 := h
theorem okW_ite2 {c : Prop} {d : Decidable c} {a b : Int32 × SP} (ha : okW a.2) (hb : okW b.2) : okW (@ite _ c d a b).2 := by
  by_cases h : c
  · rw [if_pos h]; exact ha
  · rw [if_neg h]; exact hb
theorem okW_ite {c : Prop} {d : Decidable c} {a b : SP} (ha : okW a) (hb : okW b) : okW (@ite _ c d a b) := by
  by_cases h : c
  · rw [if_pos h]; exact ha
  · rw [if_neg h]; exact hb
theorem wo_operate {st : SP} {w : Int32} (h : okW st) : okW (f_operate st w).2 := by
  have hb := wb_in h
  have ha := wa_in h
  unfold f_operate
  dsimp only
  repeat' first | with_reducible exact h | with_reducible exact wo_reckonInto h | with_reducible exact wo_multiplyStep h | with_reducible exact wo_deliver h | with_reducible exact wo_readSpecial h | with_reducible exact wo_writeY h | with_reducible exact wo_writeSpecial h | with_reducible exact wo_jump h | with_reducible exact wo_returnFromTrap h | with_reducible exact wo_moveWindow h hb | with_reducible exact wo_moveWindow h ha | with_reducible refine okW_ite2 ?_ ?_ | with_reducible refine okW_ite ?_ ?_
theorem wo_move {st : SP} {a b c : Int32} (h : okW st) : okW (f_move st a b c) := by
  unfold f_move
  dsimp only
  repeat' first | with_reducible exact h | with_reducible refine okW_ite ?_ ?_
  all_goals exact h
theorem wo_access {st : SP} {w : Int32} (h : okW st) : okW (f_access st w).2 := by
  unfold f_access
  dsimp only
  repeat' first | with_reducible exact h | with_reducible exact wo_move h | with_reducible refine okW_ite2 ?_ ?_
theorem wo_perform {st : SP} (h : okW st) : okW (f_perform st).2 := by
  unfold f_perform
  dsimp only
  repeat' first | with_reducible exact h | with_reducible exact wo_sethi h | with_reducible exact wo_call h | with_reducible exact wo_operate h | with_reducible exact wo_access h | with_reducible refine okW_ite2 ?_ ?_
theorem wo_takeTrap {st : SP} {t : Int32} (h : okW st) : okW (f_takeTrap st t) := by
  unfold f_takeTrap
  split
  · exact h
  · exact wb_in (st := f_changeMode (upd st.1 14 ((st.1 14) + (1 : Int32)), st.2.1, st.2.2.1, st.2.2.2) 1 (st.1 4) 0) h
theorem d_P_step_0 : decode c_P_step 0 = .ok (.aload_n 0, 1) := by decide +kernel
theorem d_P_step_1 : decode c_P_step 1 = .ok (.dup, 1) := by decide +kernel
theorem d_P_step_2 : decode c_P_step 2 = .ok (.getfield 57, 3) := by decide +kernel
theorem d_P_step_5 : decode c_P_step 5 = .ok (.iconst 1, 1) := by decide +kernel
theorem d_P_step_6 : decode c_P_step 6 = .ok (.iadd, 1) := by decide +kernel
theorem d_P_step_7 : decode c_P_step 7 = .ok (.putfield 57, 3) := by decide +kernel
theorem d_P_step_10 : decode c_P_step 10 = .ok (.aload_n 0, 1) := by decide +kernel
theorem d_P_step_11 : decode c_P_step 11 = .ok (.aload_n 0, 1) := by decide +kernel
theorem d_P_step_12 : decode c_P_step 12 = .ok (.getfield 47, 3) := by decide +kernel
theorem d_P_step_15 : decode c_P_step 15 = .ok (.iconst 4, 1) := by decide +kernel
theorem d_P_step_16 : decode c_P_step 16 = .ok (.iadd, 1) := by decide +kernel
theorem d_P_step_17 : decode c_P_step 17 = .ok (.putfield 88, 3) := by decide +kernel
theorem d_P_step_20 : decode c_P_step 20 = .ok (.iconst (-1), 1) := by decide +kernel
theorem d_P_step_21 : decode c_P_step 21 = .ok (.istore_n 1, 1) := by decide +kernel
theorem d_P_step_22 : decode c_P_step 22 = .ok (.aload_n 0, 1) := by decide +kernel
theorem d_P_step_23 : decode c_P_step 23 = .ok (.getfield 50, 3) := by decide +kernel
theorem d_P_step_26 : decode c_P_step 26 = .ok (.ifCond .eq 11, 3) := by decide +kernel
theorem d_P_step_29 : decode c_P_step 29 = .ok (.aload_n 0, 1) := by decide +kernel
theorem d_P_step_30 : decode c_P_step 30 = .ok (.iconst 0, 1) := by decide +kernel
theorem d_P_step_31 : decode c_P_step 31 = .ok (.putfield 50, 3) := by decide +kernel
theorem d_P_step_34 : decode c_P_step 34 = .ok (.goto 8, 3) := by decide +kernel
theorem d_P_step_37 : decode c_P_step 37 = .ok (.aload_n 0, 1) := by decide +kernel
theorem d_P_step_38 : decode c_P_step 38 = .ok (.invokevirtual 91, 3) := by decide +kernel
theorem d_P_step_41 : decode c_P_step 41 = .ok (.istore_n 1, 1) := by decide +kernel
theorem d_P_step_42 : decode c_P_step 42 = .ok (.iload_n 1, 1) := by decide +kernel
theorem d_P_step_43 : decode c_P_step 43 = .ok (.iconst (-1), 1) := by decide +kernel
theorem d_P_step_44 : decode c_P_step 44 = .ok (.if_icmp .ne 22, 3) := by decide +kernel
theorem d_P_step_47 : decode c_P_step 47 = .ok (.aload_n 0, 1) := by decide +kernel
theorem d_P_step_48 : decode c_P_step 48 = .ok (.aload_n 0, 1) := by decide +kernel
theorem d_P_step_49 : decode c_P_step 49 = .ok (.getfield 47, 3) := by decide +kernel
theorem d_P_step_52 : decode c_P_step 52 = .ok (.putfield 44, 3) := by decide +kernel
theorem d_P_step_55 : decode c_P_step 55 = .ok (.aload_n 0, 1) := by decide +kernel
theorem d_P_step_56 : decode c_P_step 56 = .ok (.aload_n 0, 1) := by decide +kernel
theorem d_P_step_57 : decode c_P_step 57 = .ok (.getfield 88, 3) := by decide +kernel
theorem d_P_step_60 : decode c_P_step 60 = .ok (.putfield 47, 3) := by decide +kernel
theorem d_P_step_63 : decode c_P_step 63 = .ok (.goto 8, 3) := by decide +kernel
theorem d_P_step_66 : decode c_P_step 66 = .ok (.aload_n 0, 1) := by decide +kernel
theorem d_P_step_67 : decode c_P_step 67 = .ok (.iload_n 1, 1) := by decide +kernel
theorem d_P_step_68 : decode c_P_step 68 = .ok (.invokevirtual 95, 3) := by decide +kernel
theorem d_P_step_71 : decode c_P_step 71 = .ok (.return_, 1) := by decide +kernel
theorem kd_P_step : (y_P_step).cls = "WindowMachine$Processor" ∧ (y_P_step).cls ≠ "java/lang/invoke/MethodHandle" ∧ (y_P_step).cls ≠ "java/lang/invoke/VarHandle" ∧ (parseMethodDescriptor (y_P_step).desc).map (fun d => d.parameters.length) = some 0 := by decide +kernel
def f_step (st : SP) : SP := (let x_1 := (if (st.1 11) = (0 : Int32) then (f_perform (upd (upd st.1 13 ((st.1 13) + (1 : Int32))) 10 ((st.1 9) + (4 : Int32)), st.2.1, st.2.2.1, st.2.2.2)).1 else (-1 : Int32)); (let u_2 := (if (st.1 11) = (0 : Int32) then (f_perform (upd (upd st.1 13 ((st.1 13) + (1 : Int32))) 10 ((st.1 9) + (4 : Int32)), st.2.1, st.2.2.1, st.2.2.2)).2 else (upd (upd (upd st.1 13 ((st.1 13) + (1 : Int32))) 10 ((st.1 9) + (4 : Int32))) 11 (0 : Int32), st.2.1, st.2.2.1, st.2.2.2)); (let u_6 := (if x_1 = (-1 : Int32) then (upd (upd u_2.1 8 (u_2.1 9)) 9 (u_2.1 10), u_2.2.1, u_2.2.2.1, u_2.2.2.2) else f_takeTrap u_2 x_1); u_6)))
set_option maxHeartbeats 4000000 in
set_option maxRecDepth 100000 in
theorem mt_P_step (l : Launch) (D : va_G) (za zk zv : Nat → Nat) (h : Nat → Nat) (c : Nat → ClassId) (sz : Nat) (st : SP) (hW : vp_in (st.1 0) 4) : Met l y_P_step w_P_step ({ frames := 6, cells := 0, slots := 0, locals := 144 }) (va_Pc [.ref (h 0)] (zw_pre D vwCl [(c 0, .int), (c 1, .int)] sz (wP h c st) (zz za zk zv (va_A (wP h c st) sz)))) (va_Qv (fun (u : SP) => u = f_step st) (fun u t => zw_at D vwCl (va_A (wP h c st) sz) ((fun (u : SP) => wP h c u) u) t) (va_A (wP h c st) sz)) 0 0 (va_A (wP h c st) sz) := by
  refine zm (Qf := fun A => va_Qv (fun (u : SP) => u = f_step st) (fun u t => zw_at D vwCl A ((fun (u : SP) => wP h c u) u) t) A) (Zf := fun A => zz za zk zv A) (cc := c_P_step) (nL := 2) (ret := none) (by decide) rfl (Nat.le_of_ble_eq_true rfl) ?_
  intro p e s m below meth c9 A H locs ls hx hb hml hown hts hr hlocks hA hK hP hD hS hZ hl
  have hl : lv_has ls 2 [(0, .ref (h 0))] := hl
  have ht : ∀ w9 ∈ zT, w9.before _ s = true := fun w9 h9 => hts w9 (List.mem_cons_of_mem _ h9)
  refine lv_aload_n hx hb d_P_step_0 rfl (lv_at hl 0 rfl) ?_
  refine lv_dup hx hb d_P_step_1 rfl ?_
  refine va_get (D := D) (ci := 2) (v := .int (st.1 13)) (C := "WindowMachine$Processor") (T := T_P) (N := 18) hx hb ht zi_P hown hK hP 0 rfl rfl 16 (by decide) (ht _ zw_135) (fun _ h9 => h9) rfl d_P_step_2 ?_
  refine lv_iconst (v := (1 : Int32)) hx hb d_P_step_5 (by decide) ?_
  refine lv_iadd hx hb d_P_step_6 ?_
  refine va_put (D := D) (ci := 2) (v := .int ((st.1 13) + (1 : Int32))) (ty := .int) (C := "WindowMachine$Processor") (T := T_P) (N := 18) hx hb ht zi_P ty_P tyok_P nm_P hown hK hP hD hS 0 rfl rfl 16 (by decide) (ht _ zw_135) (fun _ h9 => h9) rfl (by decide +kernel) rfl rfl (Nat.le_of_ble_eq_true rfl) d_P_step_7 (fun H locs hP hD hS => ?_)
  have hP : va_P D vwCl (wP h c (upd st.1 13 ((st.1 13) + (1 : Int32)), st.2.1, st.2.2.1, st.2.2.2)) H := hP
  have hD : va_D A (wP h c (upd st.1 13 ((st.1 13) + (1 : Int32)), st.2.1, st.2.2.1, st.2.2.2)) := hD
  refine lv_aload_n hx hb d_P_step_10 rfl (lv_at hl 0 rfl) ?_
  refine lv_aload_n hx hb d_P_step_11 rfl (lv_at hl 0 rfl) ?_
  refine va_get (D := D) (ci := 2) (v := .int (st.1 9)) (C := "WindowMachine$Processor") (T := T_P) (N := 18) hx hb ht zi_P hown hK hP 0 rfl rfl 12 (by decide) (ht _ zw_130) (fun _ h9 => h9) rfl d_P_step_12 ?_
  refine lv_iconst (v := (4 : Int32)) hx hb d_P_step_15 (by decide) ?_
  refine lv_iadd hx hb d_P_step_16 ?_
  refine va_put (D := D) (ci := 2) (v := .int ((st.1 9) + (4 : Int32))) (ty := .int) (C := "WindowMachine$Processor") (T := T_P) (N := 18) hx hb ht zi_P ty_P tyok_P nm_P hown hK hP hD hS 0 rfl rfl 13 (by decide) (ht _ zw_131) (fun _ h9 => h9) rfl (by decide +kernel) rfl rfl (Nat.le_of_ble_eq_true rfl) d_P_step_17 (fun H locs hP hD hS => ?_)
  have hP : va_P D vwCl (wP h c (upd (upd st.1 13 ((st.1 13) + (1 : Int32))) 10 ((st.1 9) + (4 : Int32)), st.2.1, st.2.2.1, st.2.2.2)) H := hP
  have hD : va_D A (wP h c (upd (upd st.1 13 ((st.1 13) + (1 : Int32))) 10 ((st.1 9) + (4 : Int32)), st.2.1, st.2.2.1, st.2.2.2)) := hD
  refine lv_iconst (v := (-1 : Int32)) hx hb d_P_step_20 (by decide) ?_
  refine lv_istore_n (lv' := [(1, .int (-1 : Int32)), (0, .ref (h 0))]) hx hb d_P_step_21 rfl hl (by decide) rfl (fun ls hl => ?_)
  refine lv_aload_n hx hb d_P_step_22 rfl (lv_at hl 1 rfl) ?_
  refine va_get (D := D) (ci := 2) (v := .int (st.1 11)) (C := "WindowMachine$Processor") (T := T_P) (N := 18) hx hb ht zi_P hown hK hP 0 rfl rfl 14 (by decide) (ht _ zw_132) (fun _ h9 => h9) rfl d_P_step_23 ?_
  refine zcut (X := Int32 × SP) (G := fun v9 H locs ls => v9.1 = (if (st.1 11) = (0 : Int32) then (f_perform (upd (upd st.1 13 ((st.1 13) + (1 : Int32))) 10 ((st.1 9) + (4 : Int32)), st.2.1, st.2.2.1, st.2.2.2)).1 else (-1 : Int32)) ∧ v9.2 = (if (st.1 11) = (0 : Int32) then (f_perform (upd (upd st.1 13 ((st.1 13) + (1 : Int32))) 10 ((st.1 9) + (4 : Int32)), st.2.1, st.2.2.1, st.2.2.2)).2 else (upd (upd (upd st.1 13 ((st.1 13) + (1 : Int32))) 10 ((st.1 9) + (4 : Int32))) 11 (0 : Int32), st.2.1, st.2.2.1, st.2.2.2)) ∧ va_P D vwCl (wP h c v9.2) H ∧ va_D A (wP h c v9.2) ∧ va_S A s.heap H locs ∧ lv_has ls 2 [(0, .ref (h 0)), (1, .int v9.1)]) (fr := fun v9 ls => F0 m 42 ls []) (fun J_3 => ?_) (fun v9 H locs ls hG => ?_)
  · refine lv_if_eq (tgt := 37) hx hb d_P_step_26 (by decide) (fun c_4 => ?_) (fun c_4 => ?_)
    · refine lv_aload_n hx hb d_P_step_37 rfl (lv_at hl 1 rfl) ?_
      refine zc_i (w2 := fun u9 => wP h c u9) (va_runV (As := []) (rest := []) ⟨hx, hb, hml, hown, ht⟩ (mt_P_perform l D za zk zv h c H.size (upd (upd st.1 13 ((st.1 13) + (1 : Int32))) 10 ((st.1 9) + (4 : Int32)), st.2.1, st.2.2.1, st.2.2.2) hW) (cwV 0 ht (zgV zw_525 zw_527 zs_22 zw_4 zw_528) rfl rfl rfl kd_P_perform ⟨Nat.le_of_ble_eq_true rfl, Nat.le_of_ble_eq_true rfl⟩) ⟨zw_blind zz_bl, va_recv (hK.sub (tys' := [(c 0, .int), (c 1, .int)]) [0, 1] rfl) (hP.sub (ws' := wP h c (upd (upd st.1 13 ((st.1 13) + (1 : Int32))) 10 ((st.1 9) + (4 : Int32)), st.2.1, st.2.2.1, st.2.2.2)) [0, 1, 2, 3, 4, 5] rfl) (ci := 2) (q0 := 0) rfl rfl, zw_go (hP.sub (ws' := wP h c (upd (upd st.1 13 ((st.1 13) + (1 : Int32))) 10 ((st.1 9) + (4 : Int32)), st.2.1, st.2.2.1, st.2.2.2)) [0, 1, 2, 3, 4, 5] rfl) (hD.sub (ws' := wP h c (upd (upd st.1 13 ((st.1 13) + (1 : Int32))) 10 ((st.1 9) + (4 : Int32)), st.2.1, st.2.2.1, st.2.2.2)) [0, 1, 2, 3, 4, 5] (by decide) rfl) (hK.sub (tys' := [(c 0, .int), (c 1, .int)]) [0, 1] rfl) (fun U hU hW => zz_go hZ hS (va_free (wc := wP h c (upd (upd st.1 13 ((st.1 13) + (1 : Int32))) 10 ((st.1 9) + (4 : Int32)), st.2.1, st.2.2.1, st.2.2.2)) hD hS hA [0, 1, 2, 3, 4, 5] rfl) hU hW)⟩ rfl rfl hl.1 rfl (lv_room (Nat.le_of_ble_eq_true rfl)) d_P_step_38 ⟨Nat.le_of_ble_eq_true rfl, Nat.le_of_ble_eq_true rfl⟩) hP hD hS hA [0, 1, 2, 3, 4, 5] [] [0, 1, 2, 3, 4, 5] rfl rfl (by decide) (by decide) (by decide) (fun _ => rfl) (fun r_5 u_5 H locs hw hP hD hS => ?_)
      obtain ⟨rfl, rfl⟩ := hw
      refine lv_istore_n (lv' := [(1, .int ((f_perform (upd (upd st.1 13 ((st.1 13) + (1 : Int32))) 10 ((st.1 9) + (4 : Int32)), st.2.1, st.2.2.1, st.2.2.2)).1)), (0, .ref (h 0))]) hx hb d_P_step_41 rfl hl (by decide) rfl (fun ls hl => ?_)
      exact J_3 ((f_perform (upd (upd st.1 13 ((st.1 13) + (1 : Int32))) 10 ((st.1 9) + (4 : Int32)), st.2.1, st.2.2.1, st.2.2.2)).1, (f_perform (upd (upd st.1 13 ((st.1 13) + (1 : Int32))) 10 ((st.1 9) + (4 : Int32)), st.2.1, st.2.2.1, st.2.2.2)).2) _ _ _ ⟨by simp only [if_pos c_4], by simp only [if_pos c_4], hP, hD, hS, (lv_sub hl [1, 0] rfl)⟩
    refine lv_aload_n hx hb d_P_step_29 rfl (lv_at hl 1 rfl) ?_
    refine lv_iconst (v := (0 : Int32)) hx hb d_P_step_30 (by decide) ?_
    refine va_put (D := D) (ci := 2) (v := .int (0 : Int32)) (ty := .boolean) (C := "WindowMachine$Processor") (T := T_P) (N := 18) hx hb ht zi_P ty_P tyok_P nm_P hown hK hP hD hS 0 rfl rfl 14 (by decide) (ht _ zw_132) (fun _ h9 => h9) rfl (by decide +kernel) rfl rfl (Nat.le_of_ble_eq_true rfl) d_P_step_31 (fun H locs hP hD hS => ?_)
    have hP : va_P D vwCl (wP h c (upd (upd (upd st.1 13 ((st.1 13) + (1 : Int32))) 10 ((st.1 9) + (4 : Int32))) 11 (0 : Int32), st.2.1, st.2.2.1, st.2.2.2)) H := hP
    have hD : va_D A (wP h c (upd (upd (upd st.1 13 ((st.1 13) + (1 : Int32))) 10 ((st.1 9) + (4 : Int32))) 11 (0 : Int32), st.2.1, st.2.2.1, st.2.2.2)) := hD
    refine lv_goto (tgt := 42) hx hb d_P_step_34 (by decide) ?_
    exact J_3 ((-1 : Int32), (upd (upd (upd st.1 13 ((st.1 13) + (1 : Int32))) 10 ((st.1 9) + (4 : Int32))) 11 (0 : Int32), st.2.1, st.2.2.1, st.2.2.2)) _ _ _ ⟨by simp only [if_neg c_4], by simp only [if_neg c_4], hP, hD, hS, (lv_sub hl [1, 0] rfl)⟩
  obtain ⟨x_1, u_2⟩ := v9
  obtain ⟨ex_1, eu_2, hP, hD, hS, hl⟩ := hG
  have ex_1 : x_1 = _ := ex_1
  have eu_2 : u_2 = _ := eu_2
  refine lv_iload_n hx hb d_P_step_42 rfl (lv_at hl 1 rfl) ?_
  refine lv_iconst (v := (-1 : Int32)) hx hb d_P_step_43 (by decide) ?_
  refine zcut (X := SP) (G := fun v9 H locs ls => v9 = (if x_1 = (-1 : Int32) then (upd (upd u_2.1 8 (u_2.1 9)) 9 (u_2.1 10), u_2.2.1, u_2.2.2.1, u_2.2.2.2) else f_takeTrap u_2 x_1) ∧ va_P D vwCl (wP h c v9) H ∧ va_D A (wP h c v9) ∧ va_S A s.heap H locs ∧ lv_has ls 2 [(0, .ref (h 0)), (1, .int x_1)]) (fr := fun v9 ls => F0 m 71 ls []) (fun J_7 => ?_) (fun v9 H locs ls hG => ?_)
  · refine lv_icmp_ne (tgt := 66) hx hb d_P_step_44 (by decide) (fun c_8 => ?_) (fun c_8 => ?_)
    · refine lv_aload_n hx hb d_P_step_66 rfl (lv_at hl 0 rfl) ?_
      refine lv_iload_n hx hb d_P_step_67 rfl (lv_at hl 1 rfl) ?_
      refine zc_v (w2 := fun u9 => wP h c u9) (va_runV (As := [.int x_1]) (rest := []) ⟨hx, hb, hml, hown, ht⟩ (mt_P_takeTrap l D h c H.size u_2 x_1 (by rw [eu_2]; exact okW_ite (wo_perform hW) hW)) (cwV 1 ht (zgV zw_700 zw_702 zs_51 zw_4 zw_703) rfl rfl rfl kd_P_takeTrap ⟨Nat.le_of_ble_eq_true rfl, Nat.le_of_ble_eq_true rfl⟩) ⟨zw_blind zw_tt, va_recv (hK.sub (tys' := [(c 0, .int), (c 1, .int)]) [0, 1] rfl) (hP.sub (ws' := wP h c u_2) [0, 1, 2, 3, 4, 5] rfl) (ci := 2) (q0 := 0) rfl rfl, zw_go (hP.sub (ws' := wP h c u_2) [0, 1, 2, 3, 4, 5] rfl) (hD.sub (ws' := wP h c u_2) [0, 1, 2, 3, 4, 5] (by decide) rfl) (hK.sub (tys' := [(c 0, .int), (c 1, .int)]) [0, 1] rfl) (fun _ _ _ => trivial)⟩ rfl rfl hl.1 rfl (lv_room (Nat.le_of_ble_eq_true rfl)) d_P_step_68 ⟨Nat.le_of_ble_eq_true rfl, Nat.le_of_ble_eq_true rfl⟩) hP hD hS hA [0, 1, 2, 3, 4, 5] [] [0, 1, 2, 3, 4, 5] rfl rfl (by decide) (by decide) (by decide) (fun _ => rfl) (fun u_9 H locs hw hP hD hS => ?_)
      subst hw
      exact J_7 (f_takeTrap u_2 x_1) _ _ _ ⟨by simp only [if_neg c_8], hP, hD, hS, hl⟩
    refine lv_aload_n hx hb d_P_step_47 rfl (lv_at hl 0 rfl) ?_
    refine lv_aload_n hx hb d_P_step_48 rfl (lv_at hl 0 rfl) ?_
    refine va_get (D := D) (ci := 2) (v := .int (u_2.1 9)) (C := "WindowMachine$Processor") (T := T_P) (N := 18) hx hb ht zi_P hown hK hP 0 rfl rfl 12 (by decide) (ht _ zw_130) (fun _ h9 => h9) rfl d_P_step_49 ?_
    refine va_put (D := D) (ci := 2) (v := .int (u_2.1 9)) (ty := .int) (C := "WindowMachine$Processor") (T := T_P) (N := 18) hx hb ht zi_P ty_P tyok_P nm_P hown hK hP hD hS 0 rfl rfl 11 (by decide) (ht _ zw_129) (fun _ h9 => h9) rfl (by decide +kernel) rfl rfl (Nat.le_of_ble_eq_true rfl) d_P_step_52 (fun H locs hP hD hS => ?_)
    have hP : va_P D vwCl (wP h c (upd u_2.1 8 (u_2.1 9), u_2.2.1, u_2.2.2.1, u_2.2.2.2)) H := hP
    have hD : va_D A (wP h c (upd u_2.1 8 (u_2.1 9), u_2.2.1, u_2.2.2.1, u_2.2.2.2)) := hD
    refine lv_aload_n hx hb d_P_step_55 rfl (lv_at hl 0 rfl) ?_
    refine lv_aload_n hx hb d_P_step_56 rfl (lv_at hl 0 rfl) ?_
    refine va_get (D := D) (ci := 2) (v := .int (u_2.1 10)) (C := "WindowMachine$Processor") (T := T_P) (N := 18) hx hb ht zi_P hown hK hP 0 rfl rfl 13 (by decide) (ht _ zw_131) (fun _ h9 => h9) rfl d_P_step_57 ?_
    refine va_put (D := D) (ci := 2) (v := .int (u_2.1 10)) (ty := .int) (C := "WindowMachine$Processor") (T := T_P) (N := 18) hx hb ht zi_P ty_P tyok_P nm_P hown hK hP hD hS 0 rfl rfl 12 (by decide) (ht _ zw_130) (fun _ h9 => h9) rfl (by decide +kernel) rfl rfl (Nat.le_of_ble_eq_true rfl) d_P_step_60 (fun H locs hP hD hS => ?_)
    have hP : va_P D vwCl (wP h c (upd (upd u_2.1 8 (u_2.1 9)) 9 (u_2.1 10), u_2.2.1, u_2.2.2.1, u_2.2.2.2)) H := hP
    have hD : va_D A (wP h c (upd (upd u_2.1 8 (u_2.1 9)) 9 (u_2.1 10), u_2.2.1, u_2.2.2.1, u_2.2.2.2)) := hD
    refine lv_goto (tgt := 71) hx hb d_P_step_63 (by decide) ?_
    exact J_7 (upd (upd u_2.1 8 (u_2.1 9)) 9 (u_2.1 10), u_2.2.1, u_2.2.2.1, u_2.2.2.2) _ _ _ ⟨by simp only [if_pos c_8], hP, hD, hS, hl⟩
  obtain ⟨u_6, rfl⟩ : ∃ z, z = v9 := ⟨_, rfl⟩
  obtain ⟨eu_6, hP, hD, hS, hl⟩ := hG
  exact zl_v (u := u_6) hx hb hr hlocks hS hP hD (by subst ex_1; subst eu_2; subst eu_6; simp only [f_step]) d_P_step_71
