/-- the place in the line is not behind k; the line has at most 40 letters -/
def okL (k : Nat) (st : SD) : Prop := 0 ≤ (st.1 3).toInt ∧ (st.1 3).toInt ≤ k ∧ (st.1 1).toInt ≤ 40
theorem ol_mono {j k : Nat} {st : SD} (h : okL j st) (hk : j ≤ k) : okL k st := ⟨h.1, by have := h.2.1; omega, h.2.2⟩
theorem okL_iteD {k : Nat} {c : Prop} {d : Decidable c} {a b : SD} (ha : c → okL k a) (hb : ¬ c → okL k b) : okL k (@ite _ c d a b) := by
  by_cases h : c
  · rw [if_pos h]; exact ha h
  · rw [if_neg h]; exact hb h
theorem okL_ite {k : Nat} {c : Prop} {d : Decidable c} {a b : SD} (ha : okL k a) (hb : okL k b) : okL k (@ite _ c d a b) := okL_iteD (fun _ => ha) (fun _ => hb)
theorem olh {k : Nat} {st : SD} (h : okL k st) : 0 ≤ (st.1 3).toInt ∧ (st.1 1).toInt ≤ 40 := ⟨h.1, h.2.2⟩
theorem ol_inc {k : Nat} {st : SD} (hk : k < 2000) (h : okL k st) : okL (k + 1) (upd st.1 3 ((st.1 3) + (1 : Int32)), st.2.1, st.2.2.1, st.2.2.2.1, st.2.2.2.2.1, st.2.2.2.2.2) := by
  obtain ⟨h1, h2, h3⟩ := h
  have e : ((st.1 3) + (1 : Int32)).toInt = (st.1 3).toInt + 1 := by
    rw [Int32.toInt_add, show (1 : Int32).toInt = 1 from by decide]
    apply Int.bmod_eq_of_le <;> omega
  have q : 0 ≤ ((st.1 3) + (1 : Int32)).toInt ∧ ((st.1 3) + (1 : Int32)).toInt ≤ ((k + 1 : Nat) : Int) ∧ (st.1 1).toInt ≤ 40 := by
    rw [e]
    omega
  exact q
theorem ol_wrong {k : Nat} {st : SD} {p : Int32} (hk : k < 2000) (h : okL k st) : okL k (m_wrong st p) := by
  unfold m_wrong
  dsimp only
  exact okL_ite h h
theorem ol_must {k : Nat} {st : SD} {c : Int32} (hk : k < 2000) (h : okL k st) : okL (k + 1) (m_must st c) := by
  unfold m_must
  dsimp only
  exact ol_inc hk (okL_ite h (ol_wrong hk h))
theorem d_D_named_0 : decode c_D_named 0 = .ok (.aload_n 0, 1) := by decide +kernel
theorem d_D_named_1 : decode c_D_named 1 = .ok (.getfield 413, 3) := by decide +kernel
theorem d_D_named_4 : decode c_D_named 4 = .ok (.istore_n 1, 1) := by decide +kernel
theorem d_D_named_5 : decode c_D_named 5 = .ok (.iconst 0, 1) := by decide +kernel
theorem d_D_named_6 : decode c_D_named 6 = .ok (.istore_n 2, 1) := by decide +kernel
theorem d_D_named_7 : decode c_D_named 7 = .ok (.iconst 0, 1) := by decide +kernel
theorem d_D_named_8 : decode c_D_named 8 = .ok (.istore_n 3, 1) := by decide +kernel
theorem d_D_named_9 : decode c_D_named 9 = .ok (.aload_n 0, 1) := by decide +kernel
theorem d_D_named_10 : decode c_D_named 10 = .ok (.bipush 37, 2) := by decide +kernel
theorem d_D_named_12 : decode c_D_named 12 = .ok (.invokevirtual 426, 3) := by decide +kernel
theorem d_D_named_15 : decode c_D_named 15 = .ok (.aload_n 0, 1) := by decide +kernel
theorem d_D_named_16 : decode c_D_named 16 = .ok (.getfield 202, 3) := by decide +kernel
theorem d_D_named_19 : decode c_D_named 19 = .ok (.ifCond .ge 44, 3) := by decide +kernel
theorem d_D_named_22 : decode c_D_named 22 = .ok (.aload_n 0, 1) := by decide +kernel
theorem d_D_named_23 : decode c_D_named 23 = .ok (.invokevirtual 429, 3) := by decide +kernel
theorem d_D_named_26 : decode c_D_named 26 = .ok (.ifCond .eq 37, 3) := by decide +kernel
theorem d_D_named_29 : decode c_D_named 29 = .ok (.iload_n 3, 1) := by decide +kernel
theorem d_D_named_30 : decode c_D_named 30 = .ok (.iconst 2, 1) := by decide +kernel
theorem d_D_named_31 : decode c_D_named 31 = .ok (.if_icmp .ge 32, 3) := by decide +kernel
theorem d_D_named_34 : decode c_D_named 34 = .ok (.bipush 10, 2) := by decide +kernel
theorem d_D_named_36 : decode c_D_named 36 = .ok (.iload_n 2, 1) := by decide +kernel
theorem d_D_named_37 : decode c_D_named 37 = .ok (.imul, 1) := by decide +kernel
theorem d_D_named_38 : decode c_D_named 38 = .ok (.aload_n 0, 1) := by decide +kernel
theorem d_D_named_39 : decode c_D_named 39 = .ok (.invokevirtual 416, 3) := by decide +kernel
theorem d_D_named_42 : decode c_D_named 42 = .ok (.iadd, 1) := by decide +kernel
theorem d_D_named_43 : decode c_D_named 43 = .ok (.bipush 48, 2) := by decide +kernel
theorem d_D_named_45 : decode c_D_named 45 = .ok (.isub, 1) := by decide +kernel
theorem d_D_named_46 : decode c_D_named 46 = .ok (.istore_n 2, 1) := by decide +kernel
theorem d_D_named_47 : decode c_D_named 47 = .ok (.iinc 3 1, 3) := by decide +kernel
theorem d_D_named_50 : decode c_D_named 50 = .ok (.aload_n 0, 1) := by decide +kernel
theorem d_D_named_51 : decode c_D_named 51 = .ok (.dup, 1) := by decide +kernel
theorem d_D_named_52 : decode c_D_named 52 = .ok (.getfield 413, 3) := by decide +kernel
theorem d_D_named_55 : decode c_D_named 55 = .ok (.iconst 1, 1) := by decide +kernel
theorem d_D_named_56 : decode c_D_named 56 = .ok (.iadd, 1) := by decide +kernel
theorem d_D_named_57 : decode c_D_named 57 = .ok (.putfield 413, 3) := by decide +kernel
theorem d_D_named_60 : decode c_D_named 60 = .ok (.goto (-45), 3) := by decide +kernel
theorem d_D_named_63 : decode c_D_named 63 = .ok (.iload_n 3, 1) := by decide +kernel
theorem d_D_named_64 : decode c_D_named 64 = .ok (.ifCond .ne 11, 3) := by decide +kernel
theorem d_D_named_67 : decode c_D_named 67 = .ok (.aload_n 0, 1) := by decide +kernel
theorem d_D_named_68 : decode c_D_named 68 = .ok (.aload_n 0, 1) := by decide +kernel
theorem d_D_named_69 : decode c_D_named 69 = .ok (.getfield 413, 3) := by decide +kernel
theorem d_D_named_72 : decode c_D_named 72 = .ok (.invokevirtual 423, 3) := by decide +kernel
theorem d_D_named_75 : decode c_D_named 75 = .ok (.iload_n 2, 1) := by decide +kernel
theorem d_D_named_76 : decode c_D_named 76 = .ok (.bipush 31, 2) := by decide +kernel
theorem d_D_named_78 : decode c_D_named 78 = .ok (.if_icmp .le 8, 3) := by decide +kernel
theorem d_D_named_81 : decode c_D_named 81 = .ok (.aload_n 0, 1) := by decide +kernel
theorem d_D_named_82 : decode c_D_named 82 = .ok (.iload_n 1, 1) := by decide +kernel
theorem d_D_named_83 : decode c_D_named 83 = .ok (.invokevirtual 423, 3) := by decide +kernel
theorem d_D_named_86 : decode c_D_named 86 = .ok (.iload_n 2, 1) := by decide +kernel
theorem d_D_named_87 : decode c_D_named 87 = .ok (.ireturn, 1) := by decide +kernel
theorem kd_D_named : (y_D_named).cls = "WindowMachineModel" ∧ (y_D_named).cls ≠ "java/lang/invoke/MethodHandle" ∧ (y_D_named).cls ≠ "java/lang/invoke/VarHandle" ∧ (parseMethodDescriptor (y_D_named).desc).map (fun d => d.parameters.length) = some 0 := by decide +kernel
def fg_D_named_63 (st : SD) : Int32 → Nat → SD → Int32 × SD := fun x_2 i_3 u_4 => (let u_18 := (if (nI i_3) = (0 : Int32) then m_wrong u_4 (u_4.1 3) else u_4); (let u_22 := (if x_2 ≤ (31 : Int32) then u_18 else m_wrong u_18 (st.1 3)); (x_2, u_22)))
def fl_D_named_15 (st : SD) : Nat → Int32 → Nat → SD → Int32 × SD
  | 0, _, _, u_8 => (0, u_8)
  | n9 + 1, x_6, i_7, u_8 => (if (0 : Int32) ≤ (u_8.1 2) then fg_D_named_63 st x_6 i_7 u_8 else (let r_11 := m_isDigit u_8; (if r_11 = (0 : Int32) then fg_D_named_63 st x_6 i_7 u_8 else (if (2 : Int32) ≤ (nI i_7) then fg_D_named_63 st x_6 i_7 u_8 else (let r_14 := m_here u_8; (let x_15 := (((10 : Int32) * x_6) + r_14) - (48 : Int32); fl_D_named_15 st n9 x_15 (i_7 + 1) (upd u_8.1 3 ((u_8.1 3) + (1 : Int32)), u_8.2.1, u_8.2.2.1, u_8.2.2.2.1, u_8.2.2.2.2.1, u_8.2.2.2.2.2)))))))
def m_named (st : SD) : Int32 × SD := (let u_1 := m_must st (37 : Int32); fl_D_named_15 st 4 (0 : Int32) 0 u_1)
set_option maxHeartbeats 4000000 in
set_option maxRecDepth 100000 in
theorem mt_D_named (l : Launch) (D : va_G) (h : Nat → Nat) (c : Nat → ClassId) (sz : Nat) (st : SD) (k9 : Nat) (hk : k9 < 1900) (hL : okL k9 st) : Met l y_D_named w_D_named ({ frames := 2, cells := 0, slots := 0, locals := 45 }) (va_Pc [.ref (h 20)] (zw_pre D vwCl [(c 21, .long), (c 22, .int), (c 23, .int), (c 24, .int), (c 25, .int), (c 26, .int), (c 27, .int), (c 28, .int)] sz (wD h c st) (fun _ => True))) (va_Qi (fun r (u : SD) => r = (m_named st).1 ∧ u = (m_named st).2) (fun u t => zw_at D vwCl (va_A (wD h c st) sz) ((fun (u : SD) => wD h c u) u) t) (va_A (wD h c st) sz)) 0 0 (va_A (wD h c st) sz) := by
  refine zm (Qf := fun A => va_Qi (fun r (u : SD) => r = (m_named st).1 ∧ u = (m_named st).2) (fun u t => zw_at D vwCl A ((fun (u : SD) => wD h c u) u) t) A) (Zf := fun _ _ => True) (cc := c_D_named) (nL := 4) (ret := (some .int)) (by decide) rfl (Nat.le_of_ble_eq_true rfl) ?_
  intro p e s m below meth c9 A H locs ls hx hb hml hown hts hr hlocks hA hK hP hD hS hZ hl
  have hl : lv_has ls 4 [(0, .ref (h 20))] := hl
  have ht : ∀ w9 ∈ zT, w9.before _ s = true := fun w9 h9 => hts w9 (List.mem_cons_of_mem _ h9)
  refine lv_aload_n hx hb d_D_named_0 rfl (lv_at hl 0 rfl) ?_
  refine va_get (D := D) (ci := 6) (v := .int (st.1 3)) (C := "WindowMachineModel") (T := T_D) (N := 31) hx hb ht zi_D hown hK hP 0 rfl rfl 6 (by decide) (ht _ zw_860) (fun _ h9 => h9) rfl d_D_named_1 ?_
  refine lv_istore_n (lv' := [(1, .int (st.1 3)), (0, .ref (h 20))]) hx hb d_D_named_4 rfl hl (by decide) rfl (fun ls hl => ?_)
  refine lv_iconst (v := (0 : Int32)) hx hb d_D_named_5 (by decide) ?_
  refine lv_istore_n (lv' := [(2, .int (0 : Int32)), (1, .int (st.1 3)), (0, .ref (h 20))]) hx hb d_D_named_6 rfl hl (by decide) rfl (fun ls hl => ?_)
  refine lv_iconst (v := (0 : Int32)) hx hb d_D_named_7 (by decide) ?_
  refine lv_istore_n (lv' := [(3, .int (0 : Int32)), (2, .int (0 : Int32)), (1, .int (st.1 3)), (0, .ref (h 20))]) hx hb d_D_named_8 rfl hl (by decide) rfl (fun ls hl => ?_)
  refine lv_aload_n hx hb d_D_named_9 rfl (lv_at hl 3 rfl) ?_
  refine lv_bipush (v := (37 : Int32)) hx hb d_D_named_10 (by decide) ?_
  refine zc_v (w2 := fun u9 => wD h c u9) (va_runV (As := [.int (37 : Int32)]) (rest := []) ⟨hx, hb, hml, hown, ht⟩ (mt_D_must l D h c H.size st (37 : Int32) (olh hL)) (cwV 1 ht (zgV zw_1118 zw_1120 zs_76 zw_7 zw_1121) rfl rfl rfl kd_D_must ⟨Nat.le_of_ble_eq_true rfl, Nat.le_of_ble_eq_true rfl⟩) ⟨zw_blind zw_tt, va_recv (hK.sub (tys' := [(c 21, .long), (c 22, .int), (c 23, .int), (c 24, .int), (c 25, .int), (c 26, .int), (c 27, .int), (c 28, .int)]) [0, 1, 2, 3, 4, 5, 6, 7] rfl) (hP.sub (ws' := wD h c st) [0, 1, 2, 3, 4, 5, 6, 7, 8] rfl) (ci := 6) (q0 := 0) rfl rfl, zw_go (hP.sub (ws' := wD h c st) [0, 1, 2, 3, 4, 5, 6, 7, 8] rfl) (hD.sub (ws' := wD h c st) [0, 1, 2, 3, 4, 5, 6, 7, 8] (by decide) rfl) (hK.sub (tys' := [(c 21, .long), (c 22, .int), (c 23, .int), (c 24, .int), (c 25, .int), (c 26, .int), (c 27, .int), (c 28, .int)]) [0, 1, 2, 3, 4, 5, 6, 7] rfl) (fun _ _ _ => trivial)⟩ rfl rfl hl.1 rfl (lv_room (Nat.le_of_ble_eq_true rfl)) d_D_named_12 ⟨Nat.le_of_ble_eq_true rfl, Nat.le_of_ble_eq_true rfl⟩) hP hD hS hA [0, 1, 2, 3, 4, 5, 6, 7, 8] [] [0, 1, 2, 3, 4, 5, 6, 7, 8] rfl rfl (by decide) (by decide) (by decide) (fun _ => rfl) (fun u_1 H locs hw hP hD hS => ?_)
  have eu_1 := hw
  have ok_1 : okL (k9 + 1) u_1 := by rw [eu_1]; exact (ol_must (by omega) hL)
  refine zcut (X := Int32 × Nat × SD) (G := fun v9 H locs ls => m_named st = fg_D_named_63 st v9.1 v9.2.1 v9.2.2 ∧ (okL (k9 + 4) v9.2.2) ∧ va_P D vwCl (wD h c v9.2.2) H ∧ va_D A (wD h c v9.2.2) ∧ va_S A s.heap H locs ∧ lv_has ls 4 [(0, .ref (h 20)), (1, .int (st.1 3)), (2, .int v9.1), (3, .int (nI v9.2.1))]) (fr := fun v9 ls => F0 m 63 ls []) (fun J_5 => ?_) (fun v9 H locs ls hG => ?_)
  · refine zloop (X := Int32 × Nat × SD) (G := fun n9 v9 H locs ls => m_named st = fl_D_named_15 st n9 v9.1 v9.2.1 v9.2.2 ∧ (v9.2.1 + n9 = 4 ∧ v9.2.1 ≤ 2 ∧ okL (k9 + 1 + v9.2.1) v9.2.2) ∧ va_P D vwCl (wD h c v9.2.2) H ∧ va_D A (wD h c v9.2.2) ∧ va_S A s.heap H locs ∧ lv_has ls 4 [(0, .ref (h 20)), (1, .int (st.1 3)), (2, .int v9.1), (3, .int (nI v9.2.1))]) (fr := fun v9 ls => F0 m 15 ls []) (n := 4) (v := ((0 : Int32), 0, u_1)) (fun n9 ih v9 H locs ls hG => ?_) (fun v9 H locs ls hG => ?_) ⟨(by simp only [m_named, ← eu_1]), ⟨rfl, by dsimp only; omega, ok_1⟩, hP, hD, hS, (lv_sub hl [3, 2, 1, 0] rfl)⟩
    · obtain ⟨x_6, i_7, u_8⟩ := v9
      obtain ⟨hF_9, hI, hP, hD, hS, hl⟩ := hG
      dsimp only at hF_9 hI hP hD hl
      refine lv_aload_n hx hb d_D_named_15 rfl (lv_at hl 0 rfl) ?_
      refine va_get (D := D) (ci := 6) (v := .int (u_8.1 2)) (C := "WindowMachineModel") (T := T_D) (N := 31) hx hb ht zi_D hown hK hP 0 rfl rfl 5 (by decide) (ht _ zw_859) (fun _ h9 => h9) rfl d_D_named_16 ?_
      refine lv_if_ge (tgt := 63) hx hb d_D_named_19 (by decide) (fun c_10 => ?_) (fun c_10 => ?_)
      · exact J_5 (x_6, i_7, u_8) _ _ _ ⟨by rw [hF_9]; simp only [fl_D_named_15, if_pos c_10], (ol_mono hI.2.2 (by omega)), hP, hD, hS, hl⟩
      refine lv_aload_n hx hb d_D_named_22 rfl (lv_at hl 0 rfl) ?_
      refine zc_i (w2 := fun _ => wD h c u_8) (va_runV (As := []) (rest := []) ⟨hx, hb, hml, hown, ht⟩ (mt_D_isDigit l D h c H.size u_8 (olh hI.2.2)) (cwV 0 ht (zgV zw_1131 zw_1133 zs_79 zw_7 zw_1134) rfl rfl rfl kd_D_isDigit ⟨Nat.le_of_ble_eq_true rfl, Nat.le_of_ble_eq_true rfl⟩) ⟨zw_blind zw_tt, va_recv (hK.sub (tys' := [(c 21, .long), (c 22, .int), (c 23, .int), (c 24, .int), (c 25, .int), (c 26, .int), (c 27, .int), (c 28, .int)]) [0, 1, 2, 3, 4, 5, 6, 7] rfl) (hP.sub (ws' := wD h c u_8) [0, 1, 2, 3, 4, 5, 6, 7, 8] rfl) (ci := 6) (q0 := 0) rfl rfl, zw_go (hP.sub (ws' := wD h c u_8) [0, 1, 2, 3, 4, 5, 6, 7, 8] rfl) (hD.sub (ws' := wD h c u_8) [0, 1, 2, 3, 4, 5, 6, 7, 8] (by decide) rfl) (hK.sub (tys' := [(c 21, .long), (c 22, .int), (c 23, .int), (c 24, .int), (c 25, .int), (c 26, .int), (c 27, .int), (c 28, .int)]) [0, 1, 2, 3, 4, 5, 6, 7] rfl) (fun _ _ _ => trivial)⟩ rfl rfl hl.1 rfl (lv_room (Nat.le_of_ble_eq_true rfl)) d_D_named_23 ⟨Nat.le_of_ble_eq_true rfl, Nat.le_of_ble_eq_true rfl⟩) hP hD hS hA [0, 1, 2, 3, 4, 5, 6, 7, 8] [] [0, 1, 2, 3, 4, 5, 6, 7, 8] rfl rfl (by decide) (by decide) (by decide) (fun _ => rfl) (fun r_11 _ H locs hw hP hD hS => ?_)
      have er_11 := hw
      refine lv_if_eq (tgt := 63) hx hb d_D_named_26 (by decide) (fun c_12 => ?_) (fun c_12 => ?_)
      · exact J_5 (x_6, i_7, u_8) _ _ _ ⟨by rw [hF_9]; simp only [fl_D_named_15, ← er_11, if_neg c_10, if_pos c_12], (ol_mono hI.2.2 (by omega)), hP, hD, hS, hl⟩
      refine lv_iload_n hx hb d_D_named_29 rfl (lv_at hl 3 rfl) ?_
      refine lv_iconst (v := (2 : Int32)) hx hb d_D_named_30 (by decide) ?_
      refine lv_icmp_ge (tgt := 63) hx hb d_D_named_31 (by decide) (fun c_13 => ?_) (fun c_13 => ?_)
      · exact J_5 (x_6, i_7, u_8) _ _ _ ⟨by rw [hF_9]; simp only [fl_D_named_15, ← er_11, if_neg c_10, if_neg c_12, if_pos c_13], (ol_mono hI.2.2 (by omega)), hP, hD, hS, hl⟩
      refine lv_bipush (v := (10 : Int32)) hx hb d_D_named_34 (by decide) ?_
      refine lv_iload_n hx hb d_D_named_36 rfl (lv_at hl 2 rfl) ?_
      refine lv_imul hx hb d_D_named_37 ?_
      refine lv_aload_n hx hb d_D_named_38 rfl (lv_at hl 0 rfl) ?_
      refine zc_i (w2 := fun _ => wD h c u_8) (va_runV (As := []) (rest := [.int ((10 : Int32) * x_6)]) ⟨hx, hb, hml, hown, ht⟩ (mt_D_here l D h c H.size u_8 (olh hI.2.2)) (cwV 0 ht (zgV zw_1122 zw_1124 zs_77 zw_7 zw_1125) rfl rfl rfl kd_D_here ⟨Nat.le_of_ble_eq_true rfl, Nat.le_of_ble_eq_true rfl⟩) ⟨zw_blind zw_tt, va_recv (hK.sub (tys' := [(c 21, .long), (c 22, .int), (c 23, .int), (c 24, .int), (c 25, .int), (c 26, .int), (c 27, .int), (c 28, .int)]) [0, 1, 2, 3, 4, 5, 6, 7] rfl) (hP.sub (ws' := wD h c u_8) [0, 1, 2, 3, 4, 5, 6, 7, 8] rfl) (ci := 6) (q0 := 0) rfl rfl, zw_go (hP.sub (ws' := wD h c u_8) [0, 1, 2, 3, 4, 5, 6, 7, 8] rfl) (hD.sub (ws' := wD h c u_8) [0, 1, 2, 3, 4, 5, 6, 7, 8] (by decide) rfl) (hK.sub (tys' := [(c 21, .long), (c 22, .int), (c 23, .int), (c 24, .int), (c 25, .int), (c 26, .int), (c 27, .int), (c 28, .int)]) [0, 1, 2, 3, 4, 5, 6, 7] rfl) (fun _ _ _ => trivial)⟩ rfl rfl hl.1 rfl (lv_room (Nat.le_of_ble_eq_true rfl)) d_D_named_39 ⟨Nat.le_of_ble_eq_true rfl, Nat.le_of_ble_eq_true rfl⟩) hP hD hS hA [0, 1, 2, 3, 4, 5, 6, 7, 8] [] [0, 1, 2, 3, 4, 5, 6, 7, 8] rfl rfl (by decide) (by decide) (by decide) (fun _ => rfl) (fun r_14 _ H locs hw hP hD hS => ?_)
      have er_14 := hw
      refine lv_iadd hx hb d_D_named_42 ?_
      refine lv_bipush (v := (48 : Int32)) hx hb d_D_named_43 (by decide) ?_
      refine lv_isub hx hb d_D_named_45 ?_
      refine lv_topi (fun x_15 ex_15 => ?_)
      refine lv_istore_n (lv' := [(2, .int x_15), (0, .ref (h 20)), (1, .int (st.1 3)), (3, .int (nI i_7))]) hx hb d_D_named_46 rfl hl (by decide) rfl (fun ls hl => ?_)
      refine lv_iinc (v := (nI i_7) + (1 : Int32)) (lv' := [(3, .int ((nI i_7) + (1 : Int32))), (2, .int x_15), (0, .ref (h 20)), (1, .int (st.1 3))]) hx hb d_D_named_47 hl (k := 3) rfl rfl (by decide) rfl (fun ls hl => ?_)
      refine lv_aload_n hx hb d_D_named_50 rfl (lv_at hl 2 rfl) ?_
      refine lv_dup hx hb d_D_named_51 rfl ?_
      refine va_get (D := D) (ci := 6) (v := .int (u_8.1 3)) (C := "WindowMachineModel") (T := T_D) (N := 31) hx hb ht zi_D hown hK hP 0 rfl rfl 6 (by decide) (ht _ zw_860) (fun _ h9 => h9) rfl d_D_named_52 ?_
      refine lv_iconst (v := (1 : Int32)) hx hb d_D_named_55 (by decide) ?_
      refine lv_iadd hx hb d_D_named_56 ?_
      refine va_put (D := D) (ci := 6) (v := .int ((u_8.1 3) + (1 : Int32))) (ty := .int) (C := "WindowMachineModel") (T := T_D) (N := 31) hx hb ht zi_D ty_D tyok_D nm_D hown hK hP hD hS 0 rfl rfl 6 (by decide) (ht _ zw_860) (fun _ h9 => h9) rfl (by decide +kernel) rfl rfl (Nat.le_of_ble_eq_true rfl) d_D_named_57 (fun H locs hP hD hS => ?_)
      have hP : va_P D vwCl (wD h c (upd u_8.1 3 ((u_8.1 3) + (1 : Int32)), u_8.2.1, u_8.2.2.1, u_8.2.2.2.1, u_8.2.2.2.2.1, u_8.2.2.2.2.2)) H := hP
      have hD : va_D A (wD h c (upd u_8.1 3 ((u_8.1 3) + (1 : Int32)), u_8.2.1, u_8.2.2.1, u_8.2.2.2.1, u_8.2.2.2.2.1, u_8.2.2.2.2.2)) := hD
      refine lv_goto (tgt := 15) hx hb d_D_named_60 (by decide) ?_
      have hl : lv_has ls 4 [(0, .ref (h 20)), (1, .int (st.1 3)), (2, .int x_15), (3, .int (nI (i_7 + 1)))] := by rw [← nI_1 i_7]; exact (lv_sub hl [2, 3, 1, 0] rfl)
      exact ih (x_15, i_7 + 1, (upd u_8.1 3 ((u_8.1 3) + (1 : Int32)), u_8.2.1, u_8.2.2.1, u_8.2.2.2.1, u_8.2.2.2.2.1, u_8.2.2.2.2.2)) _ _ _ ⟨by rw [hF_9]; simp only [fl_D_named_15, ← er_11, ← er_14, ← ex_15, if_neg c_10, if_neg c_12, if_neg c_13], ⟨by dsimp only; omega, znlt (N := 2) (by omega) c_13, ol_inc (k := k9 + 1 + i_7) (by omega) hI.2.2⟩, hP, hD, hS, hl⟩
    · obtain ⟨x_6, i_7, u_8⟩ := v9
      obtain ⟨-, hI, -⟩ := hG
      dsimp only at hI
      exact (by omega)
  obtain ⟨x_2, i_3, u_4⟩ := v9
  obtain ⟨hF_16, hI_17, hP, hD, hS, hl⟩ := hG
  dsimp only at hF_16 hI_17 hP hD hl
  refine lv_iload_n hx hb d_D_named_63 rfl (lv_at hl 3 rfl) ?_
  refine zcut (X := SD) (G := fun v9 H locs ls => v9 = (if (nI i_3) = (0 : Int32) then m_wrong u_4 (u_4.1 3) else u_4) ∧ va_P D vwCl (wD h c v9) H ∧ va_D A (wD h c v9) ∧ va_S A s.heap H locs ∧ lv_has ls 4 [(0, .ref (h 20)), (1, .int (st.1 3)), (2, .int x_2), (3, .int (nI i_3))]) (fr := fun v9 ls => F0 m 75 ls []) (fun J_19 => ?_) (fun v9 H locs ls hG => ?_)
  · refine lv_if_ne (tgt := 75) hx hb d_D_named_64 (by decide) (fun c_20 => ?_) (fun c_20 => ?_)
    · exact J_19 u_4 _ _ _ ⟨by simp only [if_neg c_20], hP, hD, hS, hl⟩
    refine lv_aload_n hx hb d_D_named_67 rfl (lv_at hl 0 rfl) ?_
    refine lv_aload_n hx hb d_D_named_68 rfl (lv_at hl 0 rfl) ?_
    refine va_get (D := D) (ci := 6) (v := .int (u_4.1 3)) (C := "WindowMachineModel") (T := T_D) (N := 31) hx hb ht zi_D hown hK hP 0 rfl rfl 6 (by decide) (ht _ zw_860) (fun _ h9 => h9) rfl d_D_named_69 ?_
    refine zc_v (w2 := fun u9 => wD h c u9) (va_runV (As := [.int (u_4.1 3)]) (rest := []) ⟨hx, hb, hml, hown, ht⟩ (mt_D_wrong l D h c H.size u_4 (u_4.1 3)) (cwV 1 ht (zgV zw_1114 zw_1116 zs_75 zw_7 zw_1117) rfl rfl rfl kd_D_wrong ⟨Nat.le_of_ble_eq_true rfl, Nat.le_of_ble_eq_true rfl⟩) ⟨zw_blind zw_tt, va_recv (hK.sub (tys' := [(c 21, .long), (c 22, .int), (c 23, .int), (c 24, .int), (c 25, .int), (c 26, .int), (c 27, .int), (c 28, .int)]) [0, 1, 2, 3, 4, 5, 6, 7] rfl) (hP.sub (ws' := wD h c u_4) [0, 1, 2, 3, 4, 5, 6, 7, 8] rfl) (ci := 6) (q0 := 0) rfl rfl, zw_go (hP.sub (ws' := wD h c u_4) [0, 1, 2, 3, 4, 5, 6, 7, 8] rfl) (hD.sub (ws' := wD h c u_4) [0, 1, 2, 3, 4, 5, 6, 7, 8] (by decide) rfl) (hK.sub (tys' := [(c 21, .long), (c 22, .int), (c 23, .int), (c 24, .int), (c 25, .int), (c 26, .int), (c 27, .int), (c 28, .int)]) [0, 1, 2, 3, 4, 5, 6, 7] rfl) (fun _ _ _ => trivial)⟩ rfl rfl hl.1 rfl (lv_room (Nat.le_of_ble_eq_true rfl)) d_D_named_72 ⟨Nat.le_of_ble_eq_true rfl, Nat.le_of_ble_eq_true rfl⟩) hP hD hS hA [0, 1, 2, 3, 4, 5, 6, 7, 8] [] [0, 1, 2, 3, 4, 5, 6, 7, 8] rfl rfl (by decide) (by decide) (by decide) (fun _ => rfl) (fun u_21 H locs hw hP hD hS => ?_)
    subst hw
    exact J_19 (m_wrong u_4 (u_4.1 3)) _ _ _ ⟨by simp only [if_pos c_20], hP, hD, hS, hl⟩
  obtain ⟨u_18, rfl⟩ : ∃ z, z = v9 := ⟨_, rfl⟩
  obtain ⟨eu_18, hP, hD, hS, hl⟩ := hG
  have ok_18 : okL (k9 + 4) u_18 := by rw [eu_18]; exact (okL_iteD (fun c_18 => (ol_wrong (by omega) hI_17)) (fun c_18 => hI_17))
  refine lv_iload_n hx hb d_D_named_75 rfl (lv_at hl 2 rfl) ?_
  refine lv_bipush (v := (31 : Int32)) hx hb d_D_named_76 (by decide) ?_
  refine zcut (X := SD) (G := fun v9 H locs ls => v9 = (if x_2 ≤ (31 : Int32) then u_18 else m_wrong u_18 (st.1 3)) ∧ va_P D vwCl (wD h c v9) H ∧ va_D A (wD h c v9) ∧ va_S A s.heap H locs ∧ lv_has ls 4 [(0, .ref (h 20)), (1, .int (st.1 3)), (2, .int x_2), (3, .int (nI i_3))]) (fr := fun v9 ls => F0 m 86 ls []) (fun J_23 => ?_) (fun v9 H locs ls hG => ?_)
  · refine lv_icmp_le (tgt := 86) hx hb d_D_named_78 (by decide) (fun c_24 => ?_) (fun c_24 => ?_)
    · exact J_23 u_18 _ _ _ ⟨by simp only [if_pos c_24], hP, hD, hS, hl⟩
    refine lv_aload_n hx hb d_D_named_81 rfl (lv_at hl 0 rfl) ?_
    refine lv_iload_n hx hb d_D_named_82 rfl (lv_at hl 1 rfl) ?_
    refine zc_v (w2 := fun u9 => wD h c u9) (va_runV (As := [.int (st.1 3)]) (rest := []) ⟨hx, hb, hml, hown, ht⟩ (mt_D_wrong l D h c H.size u_18 (st.1 3)) (cwV 1 ht (zgV zw_1114 zw_1116 zs_75 zw_7 zw_1117) rfl rfl rfl kd_D_wrong ⟨Nat.le_of_ble_eq_true rfl, Nat.le_of_ble_eq_true rfl⟩) ⟨zw_blind zw_tt, va_recv (hK.sub (tys' := [(c 21, .long), (c 22, .int), (c 23, .int), (c 24, .int), (c 25, .int), (c 26, .int), (c 27, .int), (c 28, .int)]) [0, 1, 2, 3, 4, 5, 6, 7] rfl) (hP.sub (ws' := wD h c u_18) [0, 1, 2, 3, 4, 5, 6, 7, 8] rfl) (ci := 6) (q0 := 0) rfl rfl, zw_go (hP.sub (ws' := wD h c u_18) [0, 1, 2, 3, 4, 5, 6, 7, 8] rfl) (hD.sub (ws' := wD h c u_18) [0, 1, 2, 3, 4, 5, 6, 7, 8] (by decide) rfl) (hK.sub (tys' := [(c 21, .long), (c 22, .int), (c 23, .int), (c 24, .int), (c 25, .int), (c 26, .int), (c 27, .int), (c 28, .int)]) [0, 1, 2, 3, 4, 5, 6, 7] rfl) (fun _ _ _ => trivial)⟩ rfl rfl hl.1 rfl (lv_room (Nat.le_of_ble_eq_true rfl)) d_D_named_83 ⟨Nat.le_of_ble_eq_true rfl, Nat.le_of_ble_eq_true rfl⟩) hP hD hS hA [0, 1, 2, 3, 4, 5, 6, 7, 8] [] [0, 1, 2, 3, 4, 5, 6, 7, 8] rfl rfl (by decide) (by decide) (by decide) (fun _ => rfl) (fun u_25 H locs hw hP hD hS => ?_)
    subst hw
    exact J_23 (m_wrong u_18 (st.1 3)) _ _ _ ⟨by simp only [if_neg c_24], hP, hD, hS, hl⟩
  obtain ⟨u_22, rfl⟩ : ∃ z, z = v9 := ⟨_, rfl⟩
  obtain ⟨eu_22, hP, hD, hS, hl⟩ := hG
  have ok_22 : okL (k9 + 4) u_22 := by rw [eu_22]; exact (okL_iteD (fun c_22 => ok_18) (fun c_22 => (ol_wrong (by omega) ok_18)))
  refine lv_iload_n hx hb d_D_named_86 rfl (lv_at hl 2 rfl) ?_
  exact zl_i (u := u_22) hx hb hr hlocks hS hP hD (⟨by rw [hF_16]; simp only [fg_D_named_63, ← eu_18, ← eu_22], by rw [hF_16]; simp only [fg_D_named_63, ← eu_18, ← eu_22]⟩) d_D_named_87
theorem ol_n63 {k : Nat} {s u : SD} {x : Int32} {i : Nat} (hk : k < 2000) (h : okL k u) : okL k (fg_D_named_63 s x i u).2 := by
  unfold fg_D_named_63
  dsimp only
  exact okL_ite (okL_ite (ol_wrong hk h) h) (ol_wrong hk (okL_ite (ol_wrong hk h) h))
theorem ol_n15 {s : SD} : ∀ (n k i : Nat) (x : Int32) (u : SD), k + n < 2000 → okL k u → okL (k + n) (fl_D_named_15 s n x i u).2 := by
  intro n
  induction n with
  | zero => intro k i x u hk h; exact h
  | succ n ih =>
    intro k i x u hk h
    have e : ∀ x i, okL (k + (n + 1)) (fg_D_named_63 s x i u).2 := fun x i => ol_mono (ol_n63 (by omega) h) (by omega)
    rw [fl_D_named_15]
    dsimp only
    by_cases c1 : (0 : Int32) ≤ u.1 2
    · rw [if_pos c1]; exact e _ _
    rw [if_neg c1]
    by_cases c2 : m_isDigit u = (0 : Int32)
    · rw [if_pos c2]; exact e _ _
    rw [if_neg c2]
    by_cases c3 : (2 : Int32) ≤ nI i
    · rw [if_pos c3]; exact e _ _
    rw [if_neg c3]
    have r := ih (k + 1) (i + 1) ((((10 : Int32) * x) + m_here u) - (48 : Int32)) _ (by omega) (ol_inc (by omega) h)
    rw [show k + 1 + n = k + (n + 1) by omega] at r
    exact r
theorem ol_named {k : Nat} {st : SD} (hk : k < 1900) (h : okL k st) : okL (k + 5) (m_named st).2 := by
  unfold m_named
  dsimp only
  exact ol_n15 4 (k + 1) 0 (0 : Int32) _ (by omega) (ol_must (by omega) h)
