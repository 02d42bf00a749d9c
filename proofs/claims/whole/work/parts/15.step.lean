theorem op3_in (w : Int32) : vp_in (f_op3Of w) 64 := pk_andIn _ 6 (by decide) (by decide)
theorem oct_in (w : Int32) (c : ¬ (16 : Int32) ≤ f_op3Of w) : vp_in (f_op3Of w) 16 := by
  obtain ⟨i, hi, e⟩ := vp_in_of (op3_in w) (by omega)
  rw [e] at c ⊢
  exact vp_in_nI (znlt (N := 16) (by omega) c) (by decide)
theorem oct_val {w x : Int32} (ex : x = (if (16 : Int32) ≤ (f_op3Of w) then (0 : Int32) else octN (f_op3Of w).toNatClampNeg)) : (x = 0 ∨ (1 ≤ x.toInt ∧ x.toInt ≤ 8)) ∧ (f_op3Of w = 3 ∨ f_op3Of w = 7 → x = 8) := by
  obtain ⟨i, hi, e⟩ := vp_in_of (op3_in w) (by omega)
  rw [e] at ex ⊢
  subst ex
  have h : ∀ i : Fin 64, ((if (16 : Int32) ≤ (nI i) then (0 : Int32) else octN (nI i).toNatClampNeg) = 0 ∨ (1 ≤ (if (16 : Int32) ≤ (nI i) then (0 : Int32) else octN (nI i).toNatClampNeg).toInt ∧ (if (16 : Int32) ≤ (nI i) then (0 : Int32) else octN (nI i).toNatClampNeg).toInt ≤ 8)) ∧ (nI i = 3 ∨ nI i = 7 → (if (16 : Int32) ≤ (nI i) then (0 : Int32) else octN (nI i).toNatClampNeg) = 8) := by decide +kernel
  exact h ⟨i, hi⟩
theorem hold_in {a n : Int32} (h1 : 1 ≤ n.toInt) (h8 : n.toInt ≤ 8) (h : ¬ f_holds a n = (0 : Int32)) : 0 ≤ a.toInt ∧ a.toInt ≤ 1024 - n.toInt := by
  unfold f_holds at h
  by_cases c1 : a < (0 : Int32)
  · simp [c1] at h
  · by_cases c2 : ((1024 : Int32) - n) < a
    · simp [c2] at h
    · have q1 : ¬ a.toInt < 0 := fun q => c1 (Int32.lt_iff_toInt_lt.mpr q)
      have q2 : ¬ ((1024 : Int32) - n).toInt < a.toInt := fun q => c2 (Int32.lt_iff_toInt_lt.mpr q)
      have e : (1024 : Int32).toInt = 1024 := by decide
      rw [Int32.toInt_sub, e, Int.bmod_eq_of_le (by omega) (by omega)] at q2
      omega
theorem div4_in {a : Int32} (h0 : 0 ≤ a.toInt) (h1 : a.toInt < 1024) : vp_in (a / (4 : Int32)) 256 := by
  obtain ⟨j, hj, rfl⟩ := nI_of (x := a) (fun q => by have := Int32.lt_iff_toInt_lt.mp q; simp at this; omega)
  rw [nI_toInt hj] at h1
  have e := pk_div (a := j) (d := 4) hj (by omega) (by omega)
  rw [show (4 : Int32) = nI 4 from rfl, e]
  exact vp_in_nI (by omega) (by omega)
theorem add4_toInt {a : Int32} (h0 : 0 ≤ a.toInt) (h1 : a.toInt < 1024) : (a + (4 : Int32)).toInt = a.toInt + 4 := by
  have e : (4 : Int32).toInt = 4 := by decide
  rw [Int32.toInt_add, e, Int.bmod_eq_of_le (by omega) (by omega)]
theorem ld_in {a : Int32} (h : ¬ f_holds a (4 : Int32) = (0 : Int32)) : vp_in (a / (4 : Int32)) 256 := by
  have q := hold_in (n := 4) (by decide) (by decide) h
  have e : (4 : Int32).toInt = 4 := by decide
  rw [e] at q
  exact div4_in q.1 (by omega)
theorem mv_ha {w x a : Int32} (ex : x = (if (16 : Int32) ≤ (f_op3Of w) then (0 : Int32) else octN (f_op3Of w).toNatClampNeg)) (c0 : ¬ x = (0 : Int32)) (h : ¬ f_holds a x = (0 : Int32)) : vp_in (a / (4 : Int32)) 256 := by
  have q := (oct_val ex).1.resolve_left c0
  have r := hold_in q.1 q.2 h
  exact div4_in r.1 (by omega)
theorem mv_ha1 {w x a : Int32} (ex : x = (if (16 : Int32) ≤ (f_op3Of w) then (0 : Int32) else octN (f_op3Of w).toNatClampNeg)) (h : ¬ f_holds a x = (0 : Int32)) (o : f_op3Of w = 3 ∨ f_op3Of w = 7) : vp_in ((a + (4 : Int32)) / (4 : Int32)) 256 := by
  have q := (oct_val ex).2 o
  subst q
  have r := hold_in (n := 8) (by decide) (by decide) h
  have e : (8 : Int32).toInt = 8 := by decide
  rw [e] at r
  have s := add4_toInt r.1 (by omega)
  exact div4_in (by omega) (by omega)
theorem mv_hn {w x : Int32} (ex : x = (if (16 : Int32) ≤ (f_op3Of w) then (0 : Int32) else octN (f_op3Of w).toNatClampNeg)) (c : ¬ x = (8 : Int32)) (o : f_op3Of w = 3 ∨ f_op3Of w = 7) : vp_in (f_rdOf w + (1 : Int32)) 32 := absurd ((oct_val ex).2 o) c
theorem mv_hn2 {w : Int32} (c : ¬ (f_rdOf w &&& (1 : Int32)) = (1 : Int32)) : vp_in (f_rdOf w + (1 : Int32)) 32 := by
  obtain ⟨i, hi, e⟩ := vp_in_of (rd_in w) (by omega)
  rw [e] at c ⊢
  have h : ∀ i : Fin 32, ¬ (nI i &&& (1 : Int32)) = (1 : Int32) → ¬ (nI i + 1 < 0 ∨ 32 ≤ (nI i + 1).toNatClampNeg) := by decide +kernel
  exact h ⟨i, hi⟩ c
theorem d_P_exchange_0 : decode c_P_exchange 0 = .ok (.aload_n 0, 1) := by decide +kernel
theorem d_P_exchange_1 : decode c_P_exchange 1 = .ok (.getfield 9, 3) := by decide +kernel
theorem d_P_exchange_4 : decode c_P_exchange 4 = .ok (.iload_n 2, 1) := by decide +kernel
theorem d_P_exchange_5 : decode c_P_exchange 5 = .ok (.iload_n 3, 1) := by decide +kernel
theorem d_P_exchange_6 : decode c_P_exchange 6 = .ok (.invokevirtual 110, 3) := by decide +kernel
theorem d_P_exchange_9 : decode c_P_exchange 9 = .ok (.istore 5, 2) := by decide +kernel
theorem d_P_exchange_11 : decode c_P_exchange 11 = .ok (.aload_n 0, 1) := by decide +kernel
theorem d_P_exchange_12 : decode c_P_exchange 12 = .ok (.getfield 9, 3) := by decide +kernel
theorem d_P_exchange_15 : decode c_P_exchange 15 = .ok (.iload_n 2, 1) := by decide +kernel
theorem d_P_exchange_16 : decode c_P_exchange 16 = .ok (.iload_n 3, 1) := by decide +kernel
theorem d_P_exchange_17 : decode c_P_exchange 17 = .ok (.iload 4, 2) := by decide +kernel
theorem d_P_exchange_19 : decode c_P_exchange 19 = .ok (.invokevirtual 217, 3) := by decide +kernel
theorem d_P_exchange_22 : decode c_P_exchange 22 = .ok (.aload_n 0, 1) := by decide +kernel
theorem d_P_exchange_23 : decode c_P_exchange 23 = .ok (.getfield 18, 3) := by decide +kernel
theorem d_P_exchange_26 : decode c_P_exchange 26 = .ok (.aload_n 0, 1) := by decide +kernel
theorem d_P_exchange_27 : decode c_P_exchange 27 = .ok (.getfield 36, 3) := by decide +kernel
theorem d_P_exchange_30 : decode c_P_exchange 30 = .ok (.iload_n 1, 1) := by decide +kernel
theorem d_P_exchange_31 : decode c_P_exchange 31 = .ok (.iload 5, 2) := by decide +kernel
theorem d_P_exchange_33 : decode c_P_exchange 33 = .ok (.invokevirtual 101, 3) := by decide +kernel
theorem d_P_exchange_36 : decode c_P_exchange 36 = .ok (.return_, 1) := by decide +kernel
theorem kd_P_exchange : (y_P_exchange).cls = "WindowMachine$Processor" ∧ (y_P_exchange).cls ≠ "java/lang/invoke/MethodHandle" ∧ (y_P_exchange).cls ≠ "java/lang/invoke/VarHandle" ∧ (parseMethodDescriptor (y_P_exchange).desc).map (fun d => d.parameters.length) = some 4 := by decide +kernel
def f_exchange (st : SP) (p0 : Int32) (p1 : Int32) (p2 : Int32) (p3 : Int32) : SP := (let u_2 := f_store st.2.2.2 p1 p2 p3; (let u_3 := f_rwrite st.2.2.1 (st.1 0) p0 (f_load st.2.2.2 p1 p2); (st.1, st.2.1, u_3, u_2)))
set_option maxHeartbeats 4000000 in
set_option maxRecDepth 100000 in
theorem mt_P_exchange (l : Launch) (D : va_G) (h : Nat → Nat) (c : Nat → ClassId) (sz : Nat) (st : SP) (p0 : Int32) (p1 : Int32) (p2 : Int32) (p3 : Int32) (hW : vp_in (st.1 0) 4) (hn : vp_in p0 32) (ha : vp_in (p1 / 4) 256) : Met l y_P_exchange w_P_exchange ({ frames := 2, cells := 0, slots := 0, locals := 47 }) (va_Pc [.ref (h 0), .int p0, .int p1, .int p2, .int p3] (zw_pre D vwCl [(c 0, .int), (c 1, .int)] sz (wP h c st) (fun _ => True))) (va_Qv (fun (u : SP) => u = f_exchange st p0 p1 p2 p3) (fun u t => zw_at D vwCl (va_A (wP h c st) sz) ((fun (u : SP) => wP h c u) u) t) (va_A (wP h c st) sz)) 0 0 (va_A (wP h c st) sz) := by
  refine zm (Qf := fun A => va_Qv (fun (u : SP) => u = f_exchange st p0 p1 p2 p3) (fun u t => zw_at D vwCl A ((fun (u : SP) => wP h c u) u) t) A) (Zf := fun _ _ => True) (cc := c_P_exchange) (nL := 6) (ret := none) (by decide) rfl (Nat.le_of_ble_eq_true rfl) ?_
  intro p e s m below meth c9 A H locs ls hx hb hml hown hts hr hlocks hA hK hP hD hS hZ hl
  have hl : lv_has ls 6 [(0, .ref (h 0)), (1, .int p0), (2, .int p1), (3, .int p2), (4, .int p3)] := hl
  have ht : ∀ w9 ∈ zT, w9.before _ s = true := fun w9 h9 => hts w9 (List.mem_cons_of_mem _ h9)
  refine lv_aload_n hx hb d_P_exchange_0 rfl (lv_at hl 0 rfl) ?_
  refine va_get (D := D) (ci := 2) (v := .ref (h 1)) (C := "WindowMachine$Processor") (T := T_P) (N := 18) hx hb ht zi_P hown hK hP 0 rfl rfl 0 (by decide) (ht _ zw_116) (fun _ h9 => h9) rfl d_P_exchange_1 ?_
  refine lv_iload_n hx hb d_P_exchange_4 rfl (lv_at hl 2 rfl) ?_
  refine lv_iload_n hx hb d_P_exchange_5 rfl (lv_at hl 3 rfl) ?_
  refine zc_i (w2 := fun _ => wP h c st) (va_runV (As := [.int p1, .int p2]) (rest := []) ⟨hx, hb, hml, hown, ht⟩ (mt_M_load l D (h 1) (h 2) (c 0) H.size st.2.2.2 p1 p2 ha) (cwV 2 ht (zgV zw_530 zw_482 zw_483 zw_2 zw_484) rfl rfl rfl kd_M_load ⟨Nat.le_of_ble_eq_true rfl, Nat.le_of_ble_eq_true rfl⟩) ⟨zw_blind zw_tt, va_recv (hK.sub (tys' := [((c 0), .int)]) [0] rfl) (hP.sub (ws' := wM (h 1) (h 2) (c 0) st.2.2.2) [1, 2] rfl) (ci := 1) (q0 := 0) rfl rfl, zw_go (hP.sub (ws' := wM (h 1) (h 2) (c 0) st.2.2.2) [1, 2] rfl) (hD.sub (ws' := wM (h 1) (h 2) (c 0) st.2.2.2) [1, 2] (by decide) rfl) (hK.sub (tys' := [((c 0), .int)]) [0] rfl) (fun _ _ _ => trivial)⟩ rfl rfl hl.1 rfl (lv_room (Nat.le_of_ble_eq_true rfl)) d_P_exchange_6 ⟨Nat.le_of_ble_eq_true rfl, Nat.le_of_ble_eq_true rfl⟩) hP hD hS hA [1, 2] [0, 3, 4, 5] [0, 4, 5, 1, 2, 3] rfl rfl (by decide) (by decide) (by decide) (fun _ => rfl) (fun r_1 _ H locs hw hP hD hS => ?_)
  subst hw
  refine lv_istore (lv' := [(5, .int (f_load st.2.2.2 p1 p2)), (0, .ref (h 0)), (1, .int p0), (2, .int p1), (3, .int p2), (4, .int p3)]) hx hb d_P_exchange_9 hl (by decide) rfl (fun ls hl => ?_)
  refine lv_aload_n hx hb d_P_exchange_11 rfl (lv_at hl 1 rfl) ?_
  refine va_get (D := D) (ci := 2) (v := .ref (h 1)) (C := "WindowMachine$Processor") (T := T_P) (N := 18) hx hb ht zi_P hown hK hP 0 rfl rfl 0 (by decide) (ht _ zw_116) (fun _ h9 => h9) rfl d_P_exchange_12 ?_
  refine lv_iload_n hx hb d_P_exchange_15 rfl (lv_at hl 3 rfl) ?_
  refine lv_iload_n hx hb d_P_exchange_16 rfl (lv_at hl 4 rfl) ?_
  refine lv_iload hx hb d_P_exchange_17 (lv_at hl 5 rfl) ?_
  refine zc_v (w2 := fun u9 => wP h c (st.1, st.2.1, st.2.2.1, u9)) (va_runV (As := [.int p1, .int p2, .int p3]) (rest := []) ⟨hx, hb, hml, hown, ht⟩ (mt_M_store l D (h 1) (h 2) (c 0) H.size st.2.2.2 p1 p2 p3 ha) (cwV 3 ht (zgV zw_691 zw_465 zw_466 zw_2 zw_467) rfl rfl rfl kd_M_store ⟨Nat.le_of_ble_eq_true rfl, Nat.le_of_ble_eq_true rfl⟩) ⟨zw_blind zw_tt, va_recv (hK.sub (tys' := [((c 0), .int)]) [0] rfl) (hP.sub (ws' := wM (h 1) (h 2) (c 0) st.2.2.2) [1, 2] rfl) (ci := 1) (q0 := 0) rfl rfl, zw_go (hP.sub (ws' := wM (h 1) (h 2) (c 0) st.2.2.2) [1, 2] rfl) (hD.sub (ws' := wM (h 1) (h 2) (c 0) st.2.2.2) [1, 2] (by decide) rfl) (hK.sub (tys' := [((c 0), .int)]) [0] rfl) (fun _ _ _ => trivial)⟩ rfl rfl hl.1 rfl (lv_room (Nat.le_of_ble_eq_true rfl)) d_P_exchange_19 ⟨Nat.le_of_ble_eq_true rfl, Nat.le_of_ble_eq_true rfl⟩) hP hD hS hA [1, 2] [0, 3, 4, 5] [0, 4, 5, 1, 2, 3] rfl rfl (by decide) (by decide) (by decide) (fun _ => rfl) (fun u_2 H locs hw hP hD hS => ?_)
  have eu_2 := hw
  refine lv_aload_n hx hb d_P_exchange_22 rfl (lv_at hl 1 rfl) ?_
  refine va_get (D := D) (ci := 2) (v := .ref (h 3)) (C := "WindowMachine$Processor") (T := T_P) (N := 18) hx hb ht zi_P hown hK hP 0 rfl rfl 1 (by decide) (ht _ zw_117) (fun _ h9 => h9) rfl d_P_exchange_23 ?_
  refine lv_aload_n hx hb d_P_exchange_26 rfl (lv_at hl 1 rfl) ?_
  refine va_get (D := D) (ci := 2) (v := .int (st.1 0)) (C := "WindowMachine$Processor") (T := T_P) (N := 18) hx hb ht zi_P hown hK hP 0 rfl rfl 3 (by decide) (ht _ zw_120) (fun _ h9 => h9) rfl d_P_exchange_27 ?_
  refine lv_iload_n hx hb d_P_exchange_30 rfl (lv_at hl 2 rfl) ?_
  refine lv_iload hx hb d_P_exchange_31 (lv_at hl 0 rfl) ?_
  refine zc_v (w2 := fun u9 => wP h c (st.1, st.2.1, u9, u_2)) (va_runV (As := [.int (st.1 0), .int p0, .int (f_load st.2.2.2 p1 p2)]) (rest := []) ⟨hx, hb, hml, hown, ht⟩ (mt_R_write l D (h 3) (h 4) (c 1) H.size st.2.2.1 (st.1 0) p0 (f_load st.2.2.2 p1 p2) hW hn) (cwV 3 ht (zgV zw_553 zw_554 zw_555 zw_5 zw_556) rfl rfl rfl kd_R_write ⟨Nat.le_of_ble_eq_true rfl, Nat.le_of_ble_eq_true rfl⟩) ⟨zw_blind zw_tt, va_recv (hK.sub (tys' := [((c 1), .int)]) [1] rfl) (hP.sub (ws' := wR (h 3) (h 4) (c 1) st.2.2.1) [3, 4] rfl) (ci := 4) (q0 := 0) rfl rfl, zw_go (hP.sub (ws' := wR (h 3) (h 4) (c 1) st.2.2.1) [3, 4] rfl) (hD.sub (ws' := wR (h 3) (h 4) (c 1) st.2.2.1) [3, 4] (by decide) rfl) (hK.sub (tys' := [((c 1), .int)]) [1] rfl) (fun _ _ _ => trivial)⟩ rfl rfl hl.1 rfl (lv_room (Nat.le_of_ble_eq_true rfl)) d_P_exchange_33 ⟨Nat.le_of_ble_eq_true rfl, Nat.le_of_ble_eq_true rfl⟩) hP hD hS hA [3, 4] [0, 1, 2, 5] [0, 1, 2, 4, 5, 3] rfl rfl (by decide) (by decide) (by decide) (fun _ => rfl) (fun u_3 H locs hw hP hD hS => ?_)
  have eu_3 := hw
  exact zl_v (u := (st.1, st.2.1, u_3, u_2)) hx hb hr hlocks hS hP hD (by subst eu_2; subst eu_3; simp only [f_exchange]) d_P_exchange_36
theorem d_P_loadTwo_0 : decode c_P_loadTwo 0 = .ok (.aload_n 0, 1) := by decide +kernel
theorem d_P_loadTwo_1 : decode c_P_loadTwo 1 = .ok (.getfield 18, 3) := by decide +kernel
theorem d_P_loadTwo_4 : decode c_P_loadTwo 4 = .ok (.aload_n 0, 1) := by decide +kernel
theorem d_P_loadTwo_5 : decode c_P_loadTwo 5 = .ok (.getfield 36, 3) := by decide +kernel
theorem d_P_loadTwo_8 : decode c_P_loadTwo 8 = .ok (.iload_n 1, 1) := by decide +kernel
theorem d_P_loadTwo_9 : decode c_P_loadTwo 9 = .ok (.aload_n 0, 1) := by decide +kernel
theorem d_P_loadTwo_10 : decode c_P_loadTwo 10 = .ok (.getfield 9, 3) := by decide +kernel
theorem d_P_loadTwo_13 : decode c_P_loadTwo 13 = .ok (.iload_n 2, 1) := by decide +kernel
theorem d_P_loadTwo_14 : decode c_P_loadTwo 14 = .ok (.iconst 4, 1) := by decide +kernel
theorem d_P_loadTwo_15 : decode c_P_loadTwo 15 = .ok (.invokevirtual 110, 3) := by decide +kernel
theorem d_P_loadTwo_18 : decode c_P_loadTwo 18 = .ok (.invokevirtual 101, 3) := by decide +kernel
theorem d_P_loadTwo_21 : decode c_P_loadTwo 21 = .ok (.aload_n 0, 1) := by decide +kernel
theorem d_P_loadTwo_22 : decode c_P_loadTwo 22 = .ok (.getfield 18, 3) := by decide +kernel
theorem d_P_loadTwo_25 : decode c_P_loadTwo 25 = .ok (.aload_n 0, 1) := by decide +kernel
theorem d_P_loadTwo_26 : decode c_P_loadTwo 26 = .ok (.getfield 36, 3) := by decide +kernel
theorem d_P_loadTwo_29 : decode c_P_loadTwo 29 = .ok (.iload_n 1, 1) := by decide +kernel
theorem d_P_loadTwo_30 : decode c_P_loadTwo 30 = .ok (.iconst 1, 1) := by decide +kernel
theorem d_P_loadTwo_31 : decode c_P_loadTwo 31 = .ok (.iadd, 1) := by decide +kernel
theorem d_P_loadTwo_32 : decode c_P_loadTwo 32 = .ok (.aload_n 0, 1) := by decide +kernel
theorem d_P_loadTwo_33 : decode c_P_loadTwo 33 = .ok (.getfield 9, 3) := by decide +kernel
theorem d_P_loadTwo_36 : decode c_P_loadTwo 36 = .ok (.iload_n 2, 1) := by decide +kernel
theorem d_P_loadTwo_37 : decode c_P_loadTwo 37 = .ok (.iconst 4, 1) := by decide +kernel
theorem d_P_loadTwo_38 : decode c_P_loadTwo 38 = .ok (.iadd, 1) := by decide +kernel
theorem d_P_loadTwo_39 : decode c_P_loadTwo 39 = .ok (.iconst 4, 1) := by decide +kernel
theorem d_P_loadTwo_40 : decode c_P_loadTwo 40 = .ok (.invokevirtual 110, 3) := by decide +kernel
theorem d_P_loadTwo_43 : decode c_P_loadTwo 43 = .ok (.invokevirtual 101, 3) := by decide +kernel
theorem d_P_loadTwo_46 : decode c_P_loadTwo 46 = .ok (.return_, 1) := by decide +kernel
theorem kd_P_loadTwo : (y_P_loadTwo).cls = "WindowMachine$Processor" ∧ (y_P_loadTwo).cls ≠ "java/lang/invoke/MethodHandle" ∧ (y_P_loadTwo).cls ≠ "java/lang/invoke/VarHandle" ∧ (parseMethodDescriptor (y_P_loadTwo).desc).map (fun d => d.parameters.length) = some 2 := by decide +kernel
def f_loadTwo (st : SP) (p0 : Int32) (p1 : Int32) : SP := (let r_1 := f_load st.2.2.2 p1 (4 : Int32); (let u_2 := f_rwrite st.2.2.1 (st.1 0) p0 r_1; (let r_3 := f_load st.2.2.2 (p1 + (4 : Int32)) (4 : Int32); (let u_4 := f_rwrite u_2 (st.1 0) (p0 + (1 : Int32)) r_3; (st.1, st.2.1, u_4, st.2.2.2)))))
set_option maxHeartbeats 4000000 in
set_option maxRecDepth 100000 in
theorem mt_P_loadTwo (l : Launch) (D : va_G) (h : Nat → Nat) (c : Nat → ClassId) (sz : Nat) (st : SP) (p0 : Int32) (p1 : Int32) (hW : vp_in (st.1 0) 4) (hn : vp_in p0 32) (hn1 : vp_in (p0 + 1) 32) (ha : vp_in (p1 / 4) 256) (ha1 : vp_in ((p1 + 4) / 4) 256) : Met l y_P_loadTwo w_P_loadTwo ({ frames := 2, cells := 0, slots := 0, locals := 44 }) (va_Pc [.ref (h 0), .int p0, .int p1] (zw_pre D vwCl [(c 0, .int), (c 1, .int)] sz (wP h c st) (fun _ => True))) (va_Qv (fun (u : SP) => u = f_loadTwo st p0 p1) (fun u t => zw_at D vwCl (va_A (wP h c st) sz) ((fun (u : SP) => wP h c u) u) t) (va_A (wP h c st) sz)) 0 0 (va_A (wP h c st) sz) := by
  refine zm (Qf := fun A => va_Qv (fun (u : SP) => u = f_loadTwo st p0 p1) (fun u t => zw_at D vwCl A ((fun (u : SP) => wP h c u) u) t) A) (Zf := fun _ _ => True) (cc := c_P_loadTwo) (nL := 3) (ret := none) (by decide) rfl (Nat.le_of_ble_eq_true rfl) ?_
  intro p e s m below meth c9 A H locs ls hx hb hml hown hts hr hlocks hA hK hP hD hS hZ hl
  have hl : lv_has ls 3 [(0, .ref (h 0)), (1, .int p0), (2, .int p1)] := hl
  have ht : ∀ w9 ∈ zT, w9.before _ s = true := fun w9 h9 => hts w9 (List.mem_cons_of_mem _ h9)
  refine lv_aload_n hx hb d_P_loadTwo_0 rfl (lv_at hl 0 rfl) ?_
  refine va_get (D := D) (ci := 2) (v := .ref (h 3)) (C := "WindowMachine$Processor") (T := T_P) (N := 18) hx hb ht zi_P hown hK hP 0 rfl rfl 1 (by decide) (ht _ zw_117) (fun _ h9 => h9) rfl d_P_loadTwo_1 ?_
  refine lv_aload_n hx hb d_P_loadTwo_4 rfl (lv_at hl 0 rfl) ?_
  refine va_get (D := D) (ci := 2) (v := .int (st.1 0)) (C := "WindowMachine$Processor") (T := T_P) (N := 18) hx hb ht zi_P hown hK hP 0 rfl rfl 3 (by decide) (ht _ zw_120) (fun _ h9 => h9) rfl d_P_loadTwo_5 ?_
  refine lv_iload_n hx hb d_P_loadTwo_8 rfl (lv_at hl 1 rfl) ?_
  refine lv_aload_n hx hb d_P_loadTwo_9 rfl (lv_at hl 0 rfl) ?_
  refine va_get (D := D) (ci := 2) (v := .ref (h 1)) (C := "WindowMachine$Processor") (T := T_P) (N := 18) hx hb ht zi_P hown hK hP 0 rfl rfl 0 (by decide) (ht _ zw_116) (fun _ h9 => h9) rfl d_P_loadTwo_10 ?_
  refine lv_iload_n hx hb d_P_loadTwo_13 rfl (lv_at hl 2 rfl) ?_
  refine lv_iconst (v := (4 : Int32)) hx hb d_P_loadTwo_14 (by decide) ?_
  refine zc_i (w2 := fun _ => wP h c st) (va_runV (As := [.int p1, .int (4 : Int32)]) (rest := [.int p0, .int (st.1 0), .ref (h 3)]) ⟨hx, hb, hml, hown, ht⟩ (mt_M_load l D (h 1) (h 2) (c 0) H.size st.2.2.2 p1 (4 : Int32) ha) (cwV 2 ht (zgV zw_530 zw_482 zw_483 zw_2 zw_484) rfl rfl rfl kd_M_load ⟨Nat.le_of_ble_eq_true rfl, Nat.le_of_ble_eq_true rfl⟩) ⟨zw_blind zw_tt, va_recv (hK.sub (tys' := [((c 0), .int)]) [0] rfl) (hP.sub (ws' := wM (h 1) (h 2) (c 0) st.2.2.2) [1, 2] rfl) (ci := 1) (q0 := 0) rfl rfl, zw_go (hP.sub (ws' := wM (h 1) (h 2) (c 0) st.2.2.2) [1, 2] rfl) (hD.sub (ws' := wM (h 1) (h 2) (c 0) st.2.2.2) [1, 2] (by decide) rfl) (hK.sub (tys' := [((c 0), .int)]) [0] rfl) (fun _ _ _ => trivial)⟩ rfl rfl hl.1 rfl (lv_room (Nat.le_of_ble_eq_true rfl)) d_P_loadTwo_15 ⟨Nat.le_of_ble_eq_true rfl, Nat.le_of_ble_eq_true rfl⟩) hP hD hS hA [1, 2] [0, 3, 4, 5] [0, 4, 5, 1, 2, 3] rfl rfl (by decide) (by decide) (by decide) (fun _ => rfl) (fun r_1 _ H locs hw hP hD hS => ?_)
  have er_1 := hw
  refine zc_v (w2 := fun u9 => wP h c (st.1, st.2.1, u9, st.2.2.2)) (va_runV (As := [.int (st.1 0), .int p0, .int r_1]) (rest := []) ⟨hx, hb, hml, hown, ht⟩ (mt_R_write l D (h 3) (h 4) (c 1) H.size st.2.2.1 (st.1 0) p0 r_1 hW hn) (cwV 3 ht (zgV zw_553 zw_554 zw_555 zw_5 zw_556) rfl rfl rfl kd_R_write ⟨Nat.le_of_ble_eq_true rfl, Nat.le_of_ble_eq_true rfl⟩) ⟨zw_blind zw_tt, va_recv (hK.sub (tys' := [((c 1), .int)]) [1] rfl) (hP.sub (ws' := wR (h 3) (h 4) (c 1) st.2.2.1) [3, 4] rfl) (ci := 4) (q0 := 0) rfl rfl, zw_go (hP.sub (ws' := wR (h 3) (h 4) (c 1) st.2.2.1) [3, 4] rfl) (hD.sub (ws' := wR (h 3) (h 4) (c 1) st.2.2.1) [3, 4] (by decide) rfl) (hK.sub (tys' := [((c 1), .int)]) [1] rfl) (fun _ _ _ => trivial)⟩ rfl rfl hl.1 rfl (lv_room (Nat.le_of_ble_eq_true rfl)) d_P_loadTwo_18 ⟨Nat.le_of_ble_eq_true rfl, Nat.le_of_ble_eq_true rfl⟩) hP hD hS hA [3, 4] [0, 1, 2, 5] [0, 1, 2, 4, 5, 3] rfl rfl (by decide) (by decide) (by decide) (fun _ => rfl) (fun u_2 H locs hw hP hD hS => ?_)
  have eu_2 := hw
  refine lv_aload_n hx hb d_P_loadTwo_21 rfl (lv_at hl 0 rfl) ?_
  refine va_get (D := D) (ci := 2) (v := .ref (h 3)) (C := "WindowMachine$Processor") (T := T_P) (N := 18) hx hb ht zi_P hown hK hP 0 rfl rfl 1 (by decide) (ht _ zw_117) (fun _ h9 => h9) rfl d_P_loadTwo_22 ?_
  refine lv_aload_n hx hb d_P_loadTwo_25 rfl (lv_at hl 0 rfl) ?_
  refine va_get (D := D) (ci := 2) (v := .int (st.1 0)) (C := "WindowMachine$Processor") (T := T_P) (N := 18) hx hb ht zi_P hown hK hP 0 rfl rfl 3 (by decide) (ht _ zw_120) (fun _ h9 => h9) rfl d_P_loadTwo_26 ?_
  refine lv_iload_n hx hb d_P_loadTwo_29 rfl (lv_at hl 1 rfl) ?_
  refine lv_iconst (v := (1 : Int32)) hx hb d_P_loadTwo_30 (by decide) ?_
  refine lv_iadd hx hb d_P_loadTwo_31 ?_
  refine lv_aload_n hx hb d_P_loadTwo_32 rfl (lv_at hl 0 rfl) ?_
  refine va_get (D := D) (ci := 2) (v := .ref (h 1)) (C := "WindowMachine$Processor") (T := T_P) (N := 18) hx hb ht zi_P hown hK hP 0 rfl rfl 0 (by decide) (ht _ zw_116) (fun _ h9 => h9) rfl d_P_loadTwo_33 ?_
  refine lv_iload_n hx hb d_P_loadTwo_36 rfl (lv_at hl 2 rfl) ?_
  refine lv_iconst (v := (4 : Int32)) hx hb d_P_loadTwo_37 (by decide) ?_
  refine lv_iadd hx hb d_P_loadTwo_38 ?_
  refine lv_iconst (v := (4 : Int32)) hx hb d_P_loadTwo_39 (by decide) ?_
  refine zc_i (w2 := fun _ => wP h c (st.1, st.2.1, u_2, st.2.2.2)) (va_runV (As := [.int (p1 + (4 : Int32)), .int (4 : Int32)]) (rest := [.int (p0 + (1 : Int32)), .int (st.1 0), .ref (h 3)]) ⟨hx, hb, hml, hown, ht⟩ (mt_M_load l D (h 1) (h 2) (c 0) H.size st.2.2.2 (p1 + (4 : Int32)) (4 : Int32) ha1) (cwV 2 ht (zgV zw_530 zw_482 zw_483 zw_2 zw_484) rfl rfl rfl kd_M_load ⟨Nat.le_of_ble_eq_true rfl, Nat.le_of_ble_eq_true rfl⟩) ⟨zw_blind zw_tt, va_recv (hK.sub (tys' := [((c 0), .int)]) [0] rfl) (hP.sub (ws' := wM (h 1) (h 2) (c 0) st.2.2.2) [1, 2] rfl) (ci := 1) (q0 := 0) rfl rfl, zw_go (hP.sub (ws' := wM (h 1) (h 2) (c 0) st.2.2.2) [1, 2] rfl) (hD.sub (ws' := wM (h 1) (h 2) (c 0) st.2.2.2) [1, 2] (by decide) rfl) (hK.sub (tys' := [((c 0), .int)]) [0] rfl) (fun _ _ _ => trivial)⟩ rfl rfl hl.1 rfl (lv_room (Nat.le_of_ble_eq_true rfl)) d_P_loadTwo_40 ⟨Nat.le_of_ble_eq_true rfl, Nat.le_of_ble_eq_true rfl⟩) hP hD hS hA [1, 2] [0, 3, 4, 5] [0, 4, 5, 1, 2, 3] rfl rfl (by decide) (by decide) (by decide) (fun _ => rfl) (fun r_3 _ H locs hw hP hD hS => ?_)
  have er_3 := hw
  refine zc_v (w2 := fun u9 => wP h c (st.1, st.2.1, u9, st.2.2.2)) (va_runV (As := [.int (st.1 0), .int (p0 + (1 : Int32)), .int r_3]) (rest := []) ⟨hx, hb, hml, hown, ht⟩ (mt_R_write l D (h 3) (h 4) (c 1) H.size u_2 (st.1 0) (p0 + (1 : Int32)) r_3 hW hn1) (cwV 3 ht (zgV zw_553 zw_554 zw_555 zw_5 zw_556) rfl rfl rfl kd_R_write ⟨Nat.le_of_ble_eq_true rfl, Nat.le_of_ble_eq_true rfl⟩) ⟨zw_blind zw_tt, va_recv (hK.sub (tys' := [((c 1), .int)]) [1] rfl) (hP.sub (ws' := wR (h 3) (h 4) (c 1) u_2) [3, 4] rfl) (ci := 4) (q0 := 0) rfl rfl, zw_go (hP.sub (ws' := wR (h 3) (h 4) (c 1) u_2) [3, 4] rfl) (hD.sub (ws' := wR (h 3) (h 4) (c 1) u_2) [3, 4] (by decide) rfl) (hK.sub (tys' := [((c 1), .int)]) [1] rfl) (fun _ _ _ => trivial)⟩ rfl rfl hl.1 rfl (lv_room (Nat.le_of_ble_eq_true rfl)) d_P_loadTwo_43 ⟨Nat.le_of_ble_eq_true rfl, Nat.le_of_ble_eq_true rfl⟩) hP hD hS hA [3, 4] [0, 1, 2, 5] [0, 1, 2, 4, 5, 3] rfl rfl (by decide) (by decide) (by decide) (fun _ => rfl) (fun u_4 H locs hw hP hD hS => ?_)
  have eu_4 := hw
  exact zl_v (u := (st.1, st.2.1, u_4, st.2.2.2)) hx hb hr hlocks hS hP hD (by subst er_1; subst eu_2; subst er_3; subst eu_4; simp only [f_loadTwo]) d_P_loadTwo_46
theorem d_P_storeTwo_0 : decode c_P_storeTwo 0 = .ok (.aload_n 0, 1) := by decide +kernel
theorem d_P_storeTwo_1 : decode c_P_storeTwo 1 = .ok (.getfield 9, 3) := by decide +kernel
theorem d_P_storeTwo_4 : decode c_P_storeTwo 4 = .ok (.iload_n 2, 1) := by decide +kernel
theorem d_P_storeTwo_5 : decode c_P_storeTwo 5 = .ok (.iconst 4, 1) := by decide +kernel
theorem d_P_storeTwo_6 : decode c_P_storeTwo 6 = .ok (.aload_n 0, 1) := by decide +kernel
theorem d_P_storeTwo_7 : decode c_P_storeTwo 7 = .ok (.getfield 18, 3) := by decide +kernel
theorem d_P_storeTwo_10 : decode c_P_storeTwo 10 = .ok (.aload_n 0, 1) := by decide +kernel
theorem d_P_storeTwo_11 : decode c_P_storeTwo 11 = .ok (.getfield 36, 3) := by decide +kernel
theorem d_P_storeTwo_14 : decode c_P_storeTwo 14 = .ok (.iload_n 1, 1) := by decide +kernel
theorem d_P_storeTwo_15 : decode c_P_storeTwo 15 = .ok (.invokevirtual 146, 3) := by decide +kernel
theorem d_P_storeTwo_18 : decode c_P_storeTwo 18 = .ok (.invokevirtual 217, 3) := by decide +kernel
theorem d_P_storeTwo_21 : decode c_P_storeTwo 21 = .ok (.aload_n 0, 1) := by decide +kernel
theorem d_P_storeTwo_22 : decode c_P_storeTwo 22 = .ok (.getfield 9, 3) := by decide +kernel
theorem d_P_storeTwo_25 : decode c_P_storeTwo 25 = .ok (.iload_n 2, 1) := by decide +kernel
theorem d_P_storeTwo_26 : decode c_P_storeTwo 26 = .ok (.iconst 4, 1) := by decide +kernel
theorem d_P_storeTwo_27 : decode c_P_storeTwo 27 = .ok (.iadd, 1) := by decide +kernel
theorem d_P_storeTwo_28 : decode c_P_storeTwo 28 = .ok (.iconst 4, 1) := by decide +kernel
theorem d_P_storeTwo_29 : decode c_P_storeTwo 29 = .ok (.aload_n 0, 1) := by decide +kernel
theorem d_P_storeTwo_30 : decode c_P_storeTwo 30 = .ok (.getfield 18, 3) := by decide +kernel
theorem d_P_storeTwo_33 : decode c_P_storeTwo 33 = .ok (.aload_n 0, 1) := by decide +kernel
theorem d_P_storeTwo_34 : decode c_P_storeTwo 34 = .ok (.getfield 36, 3) := by decide +kernel
theorem d_P_storeTwo_37 : decode c_P_storeTwo 37 = .ok (.iload_n 1, 1) := by decide +kernel
theorem d_P_storeTwo_38 : decode c_P_storeTwo 38 = .ok (.iconst 1, 1) := by decide +kernel
theorem d_P_storeTwo_39 : decode c_P_storeTwo 39 = .ok (.iadd, 1) := by decide +kernel
theorem d_P_storeTwo_40 : decode c_P_storeTwo 40 = .ok (.invokevirtual 146, 3) := by decide +kernel
theorem d_P_storeTwo_43 : decode c_P_storeTwo 43 = .ok (.invokevirtual 217, 3) := by decide +kernel
theorem d_P_storeTwo_46 : decode c_P_storeTwo 46 = .ok (.return_, 1) := by decide +kernel
theorem kd_P_storeTwo : (y_P_storeTwo).cls = "WindowMachine$Processor" ∧ (y_P_storeTwo).cls ≠ "java/lang/invoke/MethodHandle" ∧ (y_P_storeTwo).cls ≠ "java/lang/invoke/VarHandle" ∧ (parseMethodDescriptor (y_P_storeTwo).desc).map (fun d => d.parameters.length) = some 2 := by decide +kernel
def f_storeTwo (st : SP) (p0 : Int32) (p1 : Int32) : SP := (let r_1 := f_rread st.2.2.1 (st.1 0) p0; (let u_2 := f_store st.2.2.2 p1 (4 : Int32) r_1; (let r_3 := f_rread st.2.2.1 (st.1 0) (p0 + (1 : Int32)); (let u_4 := f_store u_2 (p1 + (4 : Int32)) (4 : Int32) r_3; (st.1, st.2.1, st.2.2.1, u_4)))))
set_option maxHeartbeats 4000000 in
set_option maxRecDepth 100000 in
theorem mt_P_storeTwo (l : Launch) (D : va_G) (h : Nat → Nat) (c : Nat → ClassId) (sz : Nat) (st : SP) (p0 : Int32) (p1 : Int32) (hW : vp_in (st.1 0) 4) (hn : vp_in p0 32) (hn1 : vp_in (p0 + 1) 32) (ha : vp_in (p1 / 4) 256) (ha1 : vp_in ((p1 + 4) / 4) 256) : Met l y_P_storeTwo w_P_storeTwo ({ frames := 2, cells := 0, slots := 0, locals := 47 }) (va_Pc [.ref (h 0), .int p0, .int p1] (zw_pre D vwCl [(c 0, .int), (c 1, .int)] sz (wP h c st) (fun _ => True))) (va_Qv (fun (u : SP) => u = f_storeTwo st p0 p1) (fun u t => zw_at D vwCl (va_A (wP h c st) sz) ((fun (u : SP) => wP h c u) u) t) (va_A (wP h c st) sz)) 0 0 (va_A (wP h c st) sz) := by
  refine zm (Qf := fun A => va_Qv (fun (u : SP) => u = f_storeTwo st p0 p1) (fun u t => zw_at D vwCl A ((fun (u : SP) => wP h c u) u) t) A) (Zf := fun _ _ => True) (cc := c_P_storeTwo) (nL := 3) (ret := none) (by decide) rfl (Nat.le_of_ble_eq_true rfl) ?_
  intro p e s m below meth c9 A H locs ls hx hb hml hown hts hr hlocks hA hK hP hD hS hZ hl
  have hl : lv_has ls 3 [(0, .ref (h 0)), (1, .int p0), (2, .int p1)] := hl
  have ht : ∀ w9 ∈ zT, w9.before _ s = true := fun w9 h9 => hts w9 (List.mem_cons_of_mem _ h9)
  refine lv_aload_n hx hb d_P_storeTwo_0 rfl (lv_at hl 0 rfl) ?_
  refine va_get (D := D) (ci := 2) (v := .ref (h 1)) (C := "WindowMachine$Processor") (T := T_P) (N := 18) hx hb ht zi_P hown hK hP 0 rfl rfl 0 (by decide) (ht _ zw_116) (fun _ h9 => h9) rfl d_P_storeTwo_1 ?_
  refine lv_iload_n hx hb d_P_storeTwo_4 rfl (lv_at hl 2 rfl) ?_
  refine lv_iconst (v := (4 : Int32)) hx hb d_P_storeTwo_5 (by decide) ?_
  refine lv_aload_n hx hb d_P_storeTwo_6 rfl (lv_at hl 0 rfl) ?_
  refine va_get (D := D) (ci := 2) (v := .ref (h 3)) (C := "WindowMachine$Processor") (T := T_P) (N := 18) hx hb ht zi_P hown hK hP 0 rfl rfl 1 (by decide) (ht _ zw_117) (fun _ h9 => h9) rfl d_P_storeTwo_7 ?_
  refine lv_aload_n hx hb d_P_storeTwo_10 rfl (lv_at hl 0 rfl) ?_
  refine va_get (D := D) (ci := 2) (v := .int (st.1 0)) (C := "WindowMachine$Processor") (T := T_P) (N := 18) hx hb ht zi_P hown hK hP 0 rfl rfl 3 (by decide) (ht _ zw_120) (fun _ h9 => h9) rfl d_P_storeTwo_11 ?_
  refine lv_iload_n hx hb d_P_storeTwo_14 rfl (lv_at hl 1 rfl) ?_
  refine zc_i (w2 := fun _ => wP h c st) (va_runV (As := [.int (st.1 0), .int p0]) (rest := [.int (4 : Int32), .int p1, .ref (h 1)]) ⟨hx, hb, hml, hown, ht⟩ (mt_R_read l D (h 3) (h 4) (c 1) H.size st.2.2.1 (st.1 0) p0 hW hn) (cwV 2 ht (zgV zw_574 zw_575 zw_576 zw_5 zw_577) rfl rfl rfl kd_R_read ⟨Nat.le_of_ble_eq_true rfl, Nat.le_of_ble_eq_true rfl⟩) ⟨zw_blind zw_tt, va_recv (hK.sub (tys' := [((c 1), .int)]) [1] rfl) (hP.sub (ws' := wR (h 3) (h 4) (c 1) st.2.2.1) [3, 4] rfl) (ci := 4) (q0 := 0) rfl rfl, zw_go (hP.sub (ws' := wR (h 3) (h 4) (c 1) st.2.2.1) [3, 4] rfl) (hD.sub (ws' := wR (h 3) (h 4) (c 1) st.2.2.1) [3, 4] (by decide) rfl) (hK.sub (tys' := [((c 1), .int)]) [1] rfl) (fun _ _ _ => trivial)⟩ rfl rfl hl.1 rfl (lv_room (Nat.le_of_ble_eq_true rfl)) d_P_storeTwo_15 ⟨Nat.le_of_ble_eq_true rfl, Nat.le_of_ble_eq_true rfl⟩) hP hD hS hA [3, 4] [0, 1, 2, 5] [0, 1, 2, 4, 5, 3] rfl rfl (by decide) (by decide) (by decide) (fun _ => rfl) (fun r_1 _ H locs hw hP hD hS => ?_)
  have er_1 := hw
  refine zc_v (w2 := fun u9 => wP h c (st.1, st.2.1, st.2.2.1, u9)) (va_runV (As := [.int p1, .int (4 : Int32), .int r_1]) (rest := []) ⟨hx, hb, hml, hown, ht⟩ (mt_M_store l D (h 1) (h 2) (c 0) H.size st.2.2.2 p1 (4 : Int32) r_1 ha) (cwV 3 ht (zgV zw_691 zw_465 zw_466 zw_2 zw_467) rfl rfl rfl kd_M_store ⟨Nat.le_of_ble_eq_true rfl, Nat.le_of_ble_eq_true rfl⟩) ⟨zw_blind zw_tt, va_recv (hK.sub (tys' := [((c 0), .int)]) [0] rfl) (hP.sub (ws' := wM (h 1) (h 2) (c 0) st.2.2.2) [1, 2] rfl) (ci := 1) (q0 := 0) rfl rfl, zw_go (hP.sub (ws' := wM (h 1) (h 2) (c 0) st.2.2.2) [1, 2] rfl) (hD.sub (ws' := wM (h 1) (h 2) (c 0) st.2.2.2) [1, 2] (by decide) rfl) (hK.sub (tys' := [((c 0), .int)]) [0] rfl) (fun _ _ _ => trivial)⟩ rfl rfl hl.1 rfl (lv_room (Nat.le_of_ble_eq_true rfl)) d_P_storeTwo_18 ⟨Nat.le_of_ble_eq_true rfl, Nat.le_of_ble_eq_true rfl⟩) hP hD hS hA [1, 2] [0, 3, 4, 5] [0, 4, 5, 1, 2, 3] rfl rfl (by decide) (by decide) (by decide) (fun _ => rfl) (fun u_2 H locs hw hP hD hS => ?_)
  have eu_2 := hw
  refine lv_aload_n hx hb d_P_storeTwo_21 rfl (lv_at hl 0 rfl) ?_
  refine va_get (D := D) (ci := 2) (v := .ref (h 1)) (C := "WindowMachine$Processor") (T := T_P) (N := 18) hx hb ht zi_P hown hK hP 0 rfl rfl 0 (by decide) (ht _ zw_116) (fun _ h9 => h9) rfl d_P_storeTwo_22 ?_
  refine lv_iload_n hx hb d_P_storeTwo_25 rfl (lv_at hl 2 rfl) ?_
  refine lv_iconst (v := (4 : Int32)) hx hb d_P_storeTwo_26 (by decide) ?_
  refine lv_iadd hx hb d_P_storeTwo_27 ?_
  refine lv_iconst (v := (4 : Int32)) hx hb d_P_storeTwo_28 (by decide) ?_
  refine lv_aload_n hx hb d_P_storeTwo_29 rfl (lv_at hl 0 rfl) ?_
  refine va_get (D := D) (ci := 2) (v := .ref (h 3)) (C := "WindowMachine$Processor") (T := T_P) (N := 18) hx hb ht zi_P hown hK hP 0 rfl rfl 1 (by decide) (ht _ zw_117) (fun _ h9 => h9) rfl d_P_storeTwo_30 ?_
  refine lv_aload_n hx hb d_P_storeTwo_33 rfl (lv_at hl 0 rfl) ?_
  refine va_get (D := D) (ci := 2) (v := .int (st.1 0)) (C := "WindowMachine$Processor") (T := T_P) (N := 18) hx hb ht zi_P hown hK hP 0 rfl rfl 3 (by decide) (ht _ zw_120) (fun _ h9 => h9) rfl d_P_storeTwo_34 ?_
  refine lv_iload_n hx hb d_P_storeTwo_37 rfl (lv_at hl 1 rfl) ?_
  refine lv_iconst (v := (1 : Int32)) hx hb d_P_storeTwo_38 (by decide) ?_
  refine lv_iadd hx hb d_P_storeTwo_39 ?_
  refine zc_i (w2 := fun _ => wP h c (st.1, st.2.1, st.2.2.1, u_2)) (va_runV (As := [.int (st.1 0), .int (p0 + (1 : Int32))]) (rest := [.int (4 : Int32), .int (p1 + (4 : Int32)), .ref (h 1)]) ⟨hx, hb, hml, hown, ht⟩ (mt_R_read l D (h 3) (h 4) (c 1) H.size st.2.2.1 (st.1 0) (p0 + (1 : Int32)) hW hn1) (cwV 2 ht (zgV zw_574 zw_575 zw_576 zw_5 zw_577) rfl rfl rfl kd_R_read ⟨Nat.le_of_ble_eq_true rfl, Nat.le_of_ble_eq_true rfl⟩) ⟨zw_blind zw_tt, va_recv (hK.sub (tys' := [((c 1), .int)]) [1] rfl) (hP.sub (ws' := wR (h 3) (h 4) (c 1) st.2.2.1) [3, 4] rfl) (ci := 4) (q0 := 0) rfl rfl, zw_go (hP.sub (ws' := wR (h 3) (h 4) (c 1) st.2.2.1) [3, 4] rfl) (hD.sub (ws' := wR (h 3) (h 4) (c 1) st.2.2.1) [3, 4] (by decide) rfl) (hK.sub (tys' := [((c 1), .int)]) [1] rfl) (fun _ _ _ => trivial)⟩ rfl rfl hl.1 rfl (lv_room (Nat.le_of_ble_eq_true rfl)) d_P_storeTwo_40 ⟨Nat.le_of_ble_eq_true rfl, Nat.le_of_ble_eq_true rfl⟩) hP hD hS hA [3, 4] [0, 1, 2, 5] [0, 1, 2, 4, 5, 3] rfl rfl (by decide) (by decide) (by decide) (fun _ => rfl) (fun r_3 _ H locs hw hP hD hS => ?_)
  have er_3 := hw
  refine zc_v (w2 := fun u9 => wP h c (st.1, st.2.1, st.2.2.1, u9)) (va_runV (As := [.int (p1 + (4 : Int32)), .int (4 : Int32), .int r_3]) (rest := []) ⟨hx, hb, hml, hown, ht⟩ (mt_M_store l D (h 1) (h 2) (c 0) H.size u_2 (p1 + (4 : Int32)) (4 : Int32) r_3 ha1) (cwV 3 ht (zgV zw_691 zw_465 zw_466 zw_2 zw_467) rfl rfl rfl kd_M_store ⟨Nat.le_of_ble_eq_true rfl, Nat.le_of_ble_eq_true rfl⟩) ⟨zw_blind zw_tt, va_recv (hK.sub (tys' := [((c 0), .int)]) [0] rfl) (hP.sub (ws' := wM (h 1) (h 2) (c 0) u_2) [1, 2] rfl) (ci := 1) (q0 := 0) rfl rfl, zw_go (hP.sub (ws' := wM (h 1) (h 2) (c 0) u_2) [1, 2] rfl) (hD.sub (ws' := wM (h 1) (h 2) (c 0) u_2) [1, 2] (by decide) rfl) (hK.sub (tys' := [((c 0), .int)]) [0] rfl) (fun _ _ _ => trivial)⟩ rfl rfl hl.1 rfl (lv_room (Nat.le_of_ble_eq_true rfl)) d_P_storeTwo_43 ⟨Nat.le_of_ble_eq_true rfl, Nat.le_of_ble_eq_true rfl⟩) hP hD hS hA [1, 2] [0, 3, 4, 5] [0, 4, 5, 1, 2, 3] rfl rfl (by decide) (by decide) (by decide) (fun _ => rfl) (fun u_4 H locs hw hP hD hS => ?_)
  have eu_4 := hw
  exact zl_v (u := (st.1, st.2.1, st.2.2.1, u_4)) hx hb hr hlocks hS hP hD (by subst er_1; subst eu_2; subst er_3; subst eu_4; simp only [f_storeTwo]) d_P_storeTwo_46
theorem d_P_move_0 : decode c_P_move 0 = .ok (.iload_n 1, 1) := by decide +kernel
theorem d_P_move_1 : decode c_P_move 1 = .ok (.tableswitch 336 0 15 #[79, 103, 127, 151, 160, 184, 208, 232, 336, 241, 271, 336, 336, 301, 336, 314], 79) := by decide +kernel
theorem d_P_move_80 : decode c_P_move 80 = .ok (.aload_n 0, 1) := by decide +kernel
theorem d_P_move_81 : decode c_P_move 81 = .ok (.getfield 18, 3) := by decide +kernel
theorem d_P_move_84 : decode c_P_move 84 = .ok (.aload_n 0, 1) := by decide +kernel
theorem d_P_move_85 : decode c_P_move 85 = .ok (.getfield 36, 3) := by decide +kernel
theorem d_P_move_88 : decode c_P_move 88 = .ok (.iload_n 2, 1) := by decide +kernel
theorem d_P_move_89 : decode c_P_move 89 = .ok (.aload_n 0, 1) := by decide +kernel
theorem d_P_move_90 : decode c_P_move 90 = .ok (.getfield 9, 3) := by decide +kernel
theorem d_P_move_93 : decode c_P_move 93 = .ok (.iload_n 3, 1) := by decide +kernel
theorem d_P_move_94 : decode c_P_move 94 = .ok (.iconst 4, 1) := by decide +kernel
theorem d_P_move_95 : decode c_P_move 95 = .ok (.invokevirtual 110, 3) := by decide +kernel
theorem d_P_move_98 : decode c_P_move 98 = .ok (.invokevirtual 101, 3) := by decide +kernel
theorem d_P_move_101 : decode c_P_move 101 = .ok (.goto 236, 3) := by decide +kernel
theorem d_P_move_104 : decode c_P_move 104 = .ok (.aload_n 0, 1) := by decide +kernel
theorem d_P_move_105 : decode c_P_move 105 = .ok (.getfield 18, 3) := by decide +kernel
theorem d_P_move_108 : decode c_P_move 108 = .ok (.aload_n 0, 1) := by decide +kernel
theorem d_P_move_109 : decode c_P_move 109 = .ok (.getfield 36, 3) := by decide +kernel
theorem d_P_move_112 : decode c_P_move 112 = .ok (.iload_n 2, 1) := by decide +kernel
theorem d_P_move_113 : decode c_P_move 113 = .ok (.aload_n 0, 1) := by decide +kernel
theorem d_P_move_114 : decode c_P_move 114 = .ok (.getfield 9, 3) := by decide +kernel
theorem d_P_move_117 : decode c_P_move 117 = .ok (.iload_n 3, 1) := by decide +kernel
theorem d_P_move_118 : decode c_P_move 118 = .ok (.iconst 1, 1) := by decide +kernel
theorem d_P_move_119 : decode c_P_move 119 = .ok (.invokevirtual 110, 3) := by decide +kernel
theorem d_P_move_122 : decode c_P_move 122 = .ok (.invokevirtual 101, 3) := by decide +kernel
theorem d_P_move_125 : decode c_P_move 125 = .ok (.goto 212, 3) := by decide +kernel
theorem d_P_move_128 : decode c_P_move 128 = .ok (.aload_n 0, 1) := by decide +kernel
theorem d_P_move_129 : decode c_P_move 129 = .ok (.getfield 18, 3) := by decide +kernel
theorem d_P_move_132 : decode c_P_move 132 = .ok (.aload_n 0, 1) := by decide +kernel
theorem d_P_move_133 : decode c_P_move 133 = .ok (.getfield 36, 3) := by decide +kernel
theorem d_P_move_136 : decode c_P_move 136 = .ok (.iload_n 2, 1) := by decide +kernel
theorem d_P_move_137 : decode c_P_move 137 = .ok (.aload_n 0, 1) := by decide +kernel
theorem d_P_move_138 : decode c_P_move 138 = .ok (.getfield 9, 3) := by decide +kernel
theorem d_P_move_141 : decode c_P_move 141 = .ok (.iload_n 3, 1) := by decide +kernel
theorem d_P_move_142 : decode c_P_move 142 = .ok (.iconst 2, 1) := by decide +kernel
theorem d_P_move_143 : decode c_P_move 143 = .ok (.invokevirtual 110, 3) := by decide +kernel
theorem d_P_move_146 : decode c_P_move 146 = .ok (.invokevirtual 101, 3) := by decide +kernel
theorem d_P_move_149 : decode c_P_move 149 = .ok (.goto 188, 3) := by decide +kernel
theorem d_P_move_152 : decode c_P_move 152 = .ok (.aload_n 0, 1) := by decide +kernel
theorem d_P_move_153 : decode c_P_move 153 = .ok (.iload_n 2, 1) := by decide +kernel
theorem d_P_move_154 : decode c_P_move 154 = .ok (.iload_n 3, 1) := by decide +kernel
theorem d_P_move_155 : decode c_P_move 155 = .ok (.invokevirtual 213, 3) := by decide +kernel
theorem d_P_move_158 : decode c_P_move 158 = .ok (.goto 179, 3) := by decide +kernel
theorem d_P_move_161 : decode c_P_move 161 = .ok (.aload_n 0, 1) := by decide +kernel
theorem d_P_move_162 : decode c_P_move 162 = .ok (.getfield 9, 3) := by decide +kernel
theorem d_P_move_165 : decode c_P_move 165 = .ok (.iload_n 3, 1) := by decide +kernel
theorem d_P_move_166 : decode c_P_move 166 = .ok (.iconst 4, 1) := by decide +kernel
theorem d_P_move_167 : decode c_P_move 167 = .ok (.aload_n 0, 1) := by decide +kernel
theorem d_P_move_168 : decode c_P_move 168 = .ok (.getfield 18, 3) := by decide +kernel
theorem d_P_move_171 : decode c_P_move 171 = .ok (.aload_n 0, 1) := by decide +kernel
theorem d_P_move_172 : decode c_P_move 172 = .ok (.getfield 36, 3) := by decide +kernel
theorem d_P_move_175 : decode c_P_move 175 = .ok (.iload_n 2, 1) := by decide +kernel
theorem d_P_move_176 : decode c_P_move 176 = .ok (.invokevirtual 146, 3) := by decide +kernel
theorem d_P_move_179 : decode c_P_move 179 = .ok (.invokevirtual 217, 3) := by decide +kernel
theorem d_P_move_182 : decode c_P_move 182 = .ok (.goto 155, 3) := by decide +kernel
theorem d_P_move_185 : decode c_P_move 185 = .ok (.aload_n 0, 1) := by decide +kernel
theorem d_P_move_186 : decode c_P_move 186 = .ok (.getfield 9, 3) := by decide +kernel
theorem d_P_move_189 : decode c_P_move 189 = .ok (.iload_n 3, 1) := by decide +kernel
theorem d_P_move_190 : decode c_P_move 190 = .ok (.iconst 1, 1) := by decide +kernel
theorem d_P_move_191 : decode c_P_move 191 = .ok (.aload_n 0, 1) := by decide +kernel
theorem d_P_move_192 : decode c_P_move 192 = .ok (.getfield 18, 3) := by decide +kernel
theorem d_P_move_195 : decode c_P_move 195 = .ok (.aload_n 0, 1) := by decide +kernel
theorem d_P_move_196 : decode c_P_move 196 = .ok (.getfield 36, 3) := by decide +kernel
theorem d_P_move_199 : decode c_P_move 199 = .ok (.iload_n 2, 1) := by decide +kernel
theorem d_P_move_200 : decode c_P_move 200 = .ok (.invokevirtual 146, 3) := by decide +kernel
theorem d_P_move_203 : decode c_P_move 203 = .ok (.invokevirtual 217, 3) := by decide +kernel
theorem d_P_move_206 : decode c_P_move 206 = .ok (.goto 131, 3) := by decide +kernel
theorem d_P_move_209 : decode c_P_move 209 = .ok (.aload_n 0, 1) := by decide +kernel
theorem d_P_move_210 : decode c_P_move 210 = .ok (.getfield 9, 3) := by decide +kernel
theorem d_P_move_213 : decode c_P_move 213 = .ok (.iload_n 3, 1) := by decide +kernel
theorem d_P_move_214 : decode c_P_move 214 = .ok (.iconst 2, 1) := by decide +kernel
theorem d_P_move_215 : decode c_P_move 215 = .ok (.aload_n 0, 1) := by decide +kernel
theorem d_P_move_216 : decode c_P_move 216 = .ok (.getfield 18, 3) := by decide +kernel
theorem d_P_move_219 : decode c_P_move 219 = .ok (.aload_n 0, 1) := by decide +kernel
theorem d_P_move_220 : decode c_P_move 220 = .ok (.getfield 36, 3) := by decide +kernel
theorem d_P_move_223 : decode c_P_move 223 = .ok (.iload_n 2, 1) := by decide +kernel
theorem d_P_move_224 : decode c_P_move 224 = .ok (.invokevirtual 146, 3) := by decide +kernel
theorem d_P_move_227 : decode c_P_move 227 = .ok (.invokevirtual 217, 3) := by decide +kernel
theorem d_P_move_230 : decode c_P_move 230 = .ok (.goto 107, 3) := by decide +kernel
theorem d_P_move_233 : decode c_P_move 233 = .ok (.aload_n 0, 1) := by decide +kernel
theorem d_P_move_234 : decode c_P_move 234 = .ok (.iload_n 2, 1) := by decide +kernel
theorem d_P_move_235 : decode c_P_move 235 = .ok (.iload_n 3, 1) := by decide +kernel
theorem d_P_move_236 : decode c_P_move 236 = .ok (.invokevirtual 220, 3) := by decide +kernel
theorem d_P_move_239 : decode c_P_move 239 = .ok (.goto 98, 3) := by decide +kernel
theorem d_P_move_242 : decode c_P_move 242 = .ok (.aload_n 0, 1) := by decide +kernel
theorem d_P_move_243 : decode c_P_move 243 = .ok (.getfield 18, 3) := by decide +kernel
theorem d_P_move_246 : decode c_P_move 246 = .ok (.aload_n 0, 1) := by decide +kernel
theorem d_P_move_247 : decode c_P_move 247 = .ok (.getfield 36, 3) := by decide +kernel
theorem d_P_move_250 : decode c_P_move 250 = .ok (.iload_n 2, 1) := by decide +kernel
theorem d_P_move_251 : decode c_P_move 251 = .ok (.aload_n 0, 1) := by decide +kernel
theorem d_P_move_252 : decode c_P_move 252 = .ok (.getfield 9, 3) := by decide +kernel
theorem d_P_move_255 : decode c_P_move 255 = .ok (.iload_n 3, 1) := by decide +kernel
theorem d_P_move_256 : decode c_P_move 256 = .ok (.iconst 1, 1) := by decide +kernel
theorem d_P_move_257 : decode c_P_move 257 = .ok (.invokevirtual 110, 3) := by decide +kernel
theorem d_P_move_260 : decode c_P_move 260 = .ok (.bipush 24, 2) := by decide +kernel
theorem d_P_move_262 : decode c_P_move 262 = .ok (.ishl, 1) := by decide +kernel
theorem d_P_move_263 : decode c_P_move 263 = .ok (.bipush 24, 2) := by decide +kernel
theorem d_P_move_265 : decode c_P_move 265 = .ok (.ishr, 1) := by decide +kernel
theorem d_P_move_266 : decode c_P_move 266 = .ok (.invokevirtual 101, 3) := by decide +kernel
theorem d_P_move_269 : decode c_P_move 269 = .ok (.goto 68, 3) := by decide +kernel
theorem d_P_move_272 : decode c_P_move 272 = .ok (.aload_n 0, 1) := by decide +kernel
theorem d_P_move_273 : decode c_P_move 273 = .ok (.getfield 18, 3) := by decide +kernel
theorem d_P_move_276 : decode c_P_move 276 = .ok (.aload_n 0, 1) := by decide +kernel
theorem d_P_move_277 : decode c_P_move 277 = .ok (.getfield 36, 3) := by decide +kernel
theorem d_P_move_280 : decode c_P_move 280 = .ok (.iload_n 2, 1) := by decide +kernel
theorem d_P_move_281 : decode c_P_move 281 = .ok (.aload_n 0, 1) := by decide +kernel
theorem d_P_move_282 : decode c_P_move 282 = .ok (.getfield 9, 3) := by decide +kernel
theorem d_P_move_285 : decode c_P_move 285 = .ok (.iload_n 3, 1) := by decide +kernel
theorem d_P_move_286 : decode c_P_move 286 = .ok (.iconst 2, 1) := by decide +kernel
theorem d_P_move_287 : decode c_P_move 287 = .ok (.invokevirtual 110, 3) := by decide +kernel
theorem d_P_move_290 : decode c_P_move 290 = .ok (.bipush 16, 2) := by decide +kernel
theorem d_P_move_292 : decode c_P_move 292 = .ok (.ishl, 1) := by decide +kernel
theorem d_P_move_293 : decode c_P_move 293 = .ok (.bipush 16, 2) := by decide +kernel
theorem d_P_move_295 : decode c_P_move 295 = .ok (.ishr, 1) := by decide +kernel
theorem d_P_move_296 : decode c_P_move 296 = .ok (.invokevirtual 101, 3) := by decide +kernel
theorem d_P_move_299 : decode c_P_move 299 = .ok (.goto 38, 3) := by decide +kernel
theorem d_P_move_302 : decode c_P_move 302 = .ok (.aload_n 0, 1) := by decide +kernel
theorem d_P_move_303 : decode c_P_move 303 = .ok (.iload_n 2, 1) := by decide +kernel
theorem d_P_move_304 : decode c_P_move 304 = .ok (.iload_n 3, 1) := by decide +kernel
theorem d_P_move_305 : decode c_P_move 305 = .ok (.iconst 1, 1) := by decide +kernel
theorem d_P_move_306 : decode c_P_move 306 = .ok (.sipush 255, 3) := by decide +kernel
theorem d_P_move_309 : decode c_P_move 309 = .ok (.invokevirtual 223, 3) := by decide +kernel
theorem d_P_move_312 : decode c_P_move 312 = .ok (.goto 25, 3) := by decide +kernel
theorem d_P_move_315 : decode c_P_move 315 = .ok (.aload_n 0, 1) := by decide +kernel
theorem d_P_move_316 : decode c_P_move 316 = .ok (.iload_n 2, 1) := by decide +kernel
theorem d_P_move_317 : decode c_P_move 317 = .ok (.iload_n 3, 1) := by decide +kernel
theorem d_P_move_318 : decode c_P_move 318 = .ok (.iconst 4, 1) := by decide +kernel
theorem d_P_move_319 : decode c_P_move 319 = .ok (.aload_n 0, 1) := by decide +kernel
theorem d_P_move_320 : decode c_P_move 320 = .ok (.getfield 18, 3) := by decide +kernel
theorem d_P_move_323 : decode c_P_move 323 = .ok (.aload_n 0, 1) := by decide +kernel
theorem d_P_move_324 : decode c_P_move 324 = .ok (.getfield 36, 3) := by decide +kernel
theorem d_P_move_327 : decode c_P_move 327 = .ok (.iload_n 2, 1) := by decide +kernel
theorem d_P_move_328 : decode c_P_move 328 = .ok (.invokevirtual 146, 3) := by decide +kernel
theorem d_P_move_331 : decode c_P_move 331 = .ok (.invokevirtual 223, 3) := by decide +kernel
theorem d_P_move_334 : decode c_P_move 334 = .ok (.goto 3, 3) := by decide +kernel
theorem d_P_move_337 : decode c_P_move 337 = .ok (.return_, 1) := by decide +kernel
theorem kd_P_move : (y_P_move).cls = "WindowMachine$Processor" ∧ (y_P_move).cls ≠ "java/lang/invoke/MethodHandle" ∧ (y_P_move).cls ≠ "java/lang/invoke/VarHandle" ∧ (parseMethodDescriptor (y_P_move).desc).map (fun d => d.parameters.length) = some 3 := by decide +kernel
def f_move (st : SP) (p0 : Int32) (p1 : Int32) (p2 : Int32) : SP := (let u_1 := (if p0 = (0 : Int32) then (st.1, st.2.1, f_rwrite st.2.2.1 (st.1 0) p1 (f_load st.2.2.2 p2 (4 : Int32)), st.2.2.2) else (if p0 = (1 : Int32) then (st.1, st.2.1, f_rwrite st.2.2.1 (st.1 0) p1 (f_load st.2.2.2 p2 (1 : Int32)), st.2.2.2) else (if p0 = (2 : Int32) then (st.1, st.2.1, f_rwrite st.2.2.1 (st.1 0) p1 (f_load st.2.2.2 p2 (2 : Int32)), st.2.2.2) else (if p0 = (3 : Int32) then f_loadTwo st p1 p2 else (if p0 = (4 : Int32) then (st.1, st.2.1, st.2.2.1, f_store st.2.2.2 p2 (4 : Int32) (f_rread st.2.2.1 (st.1 0) p1)) else (if p0 = (5 : Int32) then (st.1, st.2.1, st.2.2.1, f_store st.2.2.2 p2 (1 : Int32) (f_rread st.2.2.1 (st.1 0) p1)) else (if p0 = (6 : Int32) then (st.1, st.2.1, st.2.2.1, f_store st.2.2.2 p2 (2 : Int32) (f_rread st.2.2.1 (st.1 0) p1)) else (if p0 = (7 : Int32) then f_storeTwo st p1 p2 else (if p0 = (9 : Int32) then (st.1, st.2.1, f_rwrite st.2.2.1 (st.1 0) p1 (((f_load st.2.2.2 p2 (1 : Int32)) <<< ((24 : Int32) &&& 31)) >>> ((24 : Int32) &&& 31)), st.2.2.2) else (if p0 = (10 : Int32) then (st.1, st.2.1, f_rwrite st.2.2.1 (st.1 0) p1 (((f_load st.2.2.2 p2 (2 : Int32)) <<< ((16 : Int32) &&& 31)) >>> ((16 : Int32) &&& 31)), st.2.2.2) else (if p0 = (13 : Int32) then f_exchange st p1 p2 (1 : Int32) (255 : Int32) else (if p0 = (15 : Int32) then f_exchange st p1 p2 (4 : Int32) (f_rread st.2.2.1 (st.1 0) p1) else st)))))))))))); u_1)
set_option maxHeartbeats 4000000 in
set_option maxRecDepth 100000 in
theorem mt_P_move (l : Launch) (D : va_G) (h : Nat → Nat) (c : Nat → ClassId) (sz : Nat) (st : SP) (p0 : Int32) (p1 : Int32) (p2 : Int32) (hW : vp_in (st.1 0) 4) (hn : vp_in p1 32) (hn1 : p0 = 3 ∨ p0 = 7 → vp_in (p1 + 1) 32) (ha : vp_in (p2 / 4) 256) (ha1 : p0 = 3 ∨ p0 = 7 → vp_in ((p2 + 4) / 4) 256) : Met l y_P_move w_P_move ({ frames := 3, cells := 0, slots := 0, locals := 72 }) (va_Pc [.ref (h 0), .int p0, .int p1, .int p2] (zw_pre D vwCl [(c 0, .int), (c 1, .int)] sz (wP h c st) (fun _ => True))) (va_Qv (fun (u : SP) => u = f_move st p0 p1 p2) (fun u t => zw_at D vwCl (va_A (wP h c st) sz) ((fun (u : SP) => wP h c u) u) t) (va_A (wP h c st) sz)) 0 0 (va_A (wP h c st) sz) := by
  refine zm (Qf := fun A => va_Qv (fun (u : SP) => u = f_move st p0 p1 p2) (fun u t => zw_at D vwCl A ((fun (u : SP) => wP h c u) u) t) A) (Zf := fun _ _ => True) (cc := c_P_move) (nL := 4) (ret := none) (by decide) rfl (Nat.le_of_ble_eq_true rfl) ?_
  intro p e s m below meth c9 A H locs ls hx hb hml hown hts hr hlocks hA hK hP hD hS hZ hl
  have hl : lv_has ls 4 [(0, .ref (h 0)), (1, .int p0), (2, .int p1), (3, .int p2)] := hl
  have ht : ∀ w9 ∈ zT, w9.before _ s = true := fun w9 h9 => hts w9 (List.mem_cons_of_mem _ h9)
  refine lv_iload_n hx hb d_P_move_0 rfl (lv_at hl 1 rfl) ?_
  refine zcut (X := SP) (G := fun v9 H locs ls => v9 = (if p0 = (0 : Int32) then (st.1, st.2.1, f_rwrite st.2.2.1 (st.1 0) p1 (f_load st.2.2.2 p2 (4 : Int32)), st.2.2.2) else (if p0 = (1 : Int32) then (st.1, st.2.1, f_rwrite st.2.2.1 (st.1 0) p1 (f_load st.2.2.2 p2 (1 : Int32)), st.2.2.2) else (if p0 = (2 : Int32) then (st.1, st.2.1, f_rwrite st.2.2.1 (st.1 0) p1 (f_load st.2.2.2 p2 (2 : Int32)), st.2.2.2) else (if p0 = (3 : Int32) then f_loadTwo st p1 p2 else (if p0 = (4 : Int32) then (st.1, st.2.1, st.2.2.1, f_store st.2.2.2 p2 (4 : Int32) (f_rread st.2.2.1 (st.1 0) p1)) else (if p0 = (5 : Int32) then (st.1, st.2.1, st.2.2.1, f_store st.2.2.2 p2 (1 : Int32) (f_rread st.2.2.1 (st.1 0) p1)) else (if p0 = (6 : Int32) then (st.1, st.2.1, st.2.2.1, f_store st.2.2.2 p2 (2 : Int32) (f_rread st.2.2.1 (st.1 0) p1)) else (if p0 = (7 : Int32) then f_storeTwo st p1 p2 else (if p0 = (9 : Int32) then (st.1, st.2.1, f_rwrite st.2.2.1 (st.1 0) p1 (((f_load st.2.2.2 p2 (1 : Int32)) <<< ((24 : Int32) &&& 31)) >>> ((24 : Int32) &&& 31)), st.2.2.2) else (if p0 = (10 : Int32) then (st.1, st.2.1, f_rwrite st.2.2.1 (st.1 0) p1 (((f_load st.2.2.2 p2 (2 : Int32)) <<< ((16 : Int32) &&& 31)) >>> ((16 : Int32) &&& 31)), st.2.2.2) else (if p0 = (13 : Int32) then f_exchange st p1 p2 (1 : Int32) (255 : Int32) else (if p0 = (15 : Int32) then f_exchange st p1 p2 (4 : Int32) (f_rread st.2.2.1 (st.1 0) p1) else st)))))))))))) ∧ va_P D vwCl (wP h c v9) H ∧ va_D A (wP h c v9) ∧ va_S A s.heap H locs ∧ lv_has ls 4 [(0, .ref (h 0)), (1, .int p0), (2, .int p1), (3, .int p2)]) (fr := fun v9 ls => F0 m 337 ls []) (fun J_2 => ?_) (fun v9 H locs ls hG => ?_)
  · by_cases c_4 : p0 = (0 : Int32)
    · refine lv_tableIn (tgt := 80) hx hb d_P_move_1 (by rw [c_4]; decide) (by rw [c_4]; decide) (by rw [c_4]; rfl) (by decide) ?_
      refine lv_aload_n hx hb d_P_move_80 rfl (lv_at hl 0 rfl) ?_
      refine va_get (D := D) (ci := 2) (v := .ref (h 3)) (C := "WindowMachine$Processor") (T := T_P) (N := 18) hx hb ht zi_P hown hK hP 0 rfl rfl 1 (by decide) (ht _ zw_117) (fun _ h9 => h9) rfl d_P_move_81 ?_
      refine lv_aload_n hx hb d_P_move_84 rfl (lv_at hl 0 rfl) ?_
      refine va_get (D := D) (ci := 2) (v := .int (st.1 0)) (C := "WindowMachine$Processor") (T := T_P) (N := 18) hx hb ht zi_P hown hK hP 0 rfl rfl 3 (by decide) (ht _ zw_120) (fun _ h9 => h9) rfl d_P_move_85 ?_
      refine lv_iload_n hx hb d_P_move_88 rfl (lv_at hl 2 rfl) ?_
      refine lv_aload_n hx hb d_P_move_89 rfl (lv_at hl 0 rfl) ?_
      refine va_get (D := D) (ci := 2) (v := .ref (h 1)) (C := "WindowMachine$Processor") (T := T_P) (N := 18) hx hb ht zi_P hown hK hP 0 rfl rfl 0 (by decide) (ht _ zw_116) (fun _ h9 => h9) rfl d_P_move_90 ?_
      refine lv_iload_n hx hb d_P_move_93 rfl (lv_at hl 3 rfl) ?_
      refine lv_iconst (v := (4 : Int32)) hx hb d_P_move_94 (by decide) ?_
      refine zc_i (w2 := fun _ => wP h c st) (va_runV (As := [.int p2, .int (4 : Int32)]) (rest := [.int p1, .int (st.1 0), .ref (h 3)]) ⟨hx, hb, hml, hown, ht⟩ (mt_M_load l D (h 1) (h 2) (c 0) H.size st.2.2.2 p2 (4 : Int32) ha) (cwV 2 ht (zgV zw_530 zw_482 zw_483 zw_2 zw_484) rfl rfl rfl kd_M_load ⟨Nat.le_of_ble_eq_true rfl, Nat.le_of_ble_eq_true rfl⟩) ⟨zw_blind zw_tt, va_recv (hK.sub (tys' := [((c 0), .int)]) [0] rfl) (hP.sub (ws' := wM (h 1) (h 2) (c 0) st.2.2.2) [1, 2] rfl) (ci := 1) (q0 := 0) rfl rfl, zw_go (hP.sub (ws' := wM (h 1) (h 2) (c 0) st.2.2.2) [1, 2] rfl) (hD.sub (ws' := wM (h 1) (h 2) (c 0) st.2.2.2) [1, 2] (by decide) rfl) (hK.sub (tys' := [((c 0), .int)]) [0] rfl) (fun _ _ _ => trivial)⟩ rfl rfl hl.1 rfl (lv_room (Nat.le_of_ble_eq_true rfl)) d_P_move_95 ⟨Nat.le_of_ble_eq_true rfl, Nat.le_of_ble_eq_true rfl⟩) hP hD hS hA [1, 2] [0, 3, 4, 5] [0, 4, 5, 1, 2, 3] rfl rfl (by decide) (by decide) (by decide) (fun _ => rfl) (fun r_5 _ H locs hw hP hD hS => ?_)
      subst hw
      refine zc_v (w2 := fun u9 => wP h c (st.1, st.2.1, u9, st.2.2.2)) (va_runV (As := [.int (st.1 0), .int p1, .int (f_load st.2.2.2 p2 (4 : Int32))]) (rest := []) ⟨hx, hb, hml, hown, ht⟩ (mt_R_write l D (h 3) (h 4) (c 1) H.size st.2.2.1 (st.1 0) p1 (f_load st.2.2.2 p2 (4 : Int32)) hW hn) (cwV 3 ht (zgV zw_553 zw_554 zw_555 zw_5 zw_556) rfl rfl rfl kd_R_write ⟨Nat.le_of_ble_eq_true rfl, Nat.le_of_ble_eq_true rfl⟩) ⟨zw_blind zw_tt, va_recv (hK.sub (tys' := [((c 1), .int)]) [1] rfl) (hP.sub (ws' := wR (h 3) (h 4) (c 1) st.2.2.1) [3, 4] rfl) (ci := 4) (q0 := 0) rfl rfl, zw_go (hP.sub (ws' := wR (h 3) (h 4) (c 1) st.2.2.1) [3, 4] rfl) (hD.sub (ws' := wR (h 3) (h 4) (c 1) st.2.2.1) [3, 4] (by decide) rfl) (hK.sub (tys' := [((c 1), .int)]) [1] rfl) (fun _ _ _ => trivial)⟩ rfl rfl hl.1 rfl (lv_room (Nat.le_of_ble_eq_true rfl)) d_P_move_98 ⟨Nat.le_of_ble_eq_true rfl, Nat.le_of_ble_eq_true rfl⟩) hP hD hS hA [3, 4] [0, 1, 2, 5] [0, 1, 2, 4, 5, 3] rfl rfl (by decide) (by decide) (by decide) (fun _ => rfl) (fun u_6 H locs hw hP hD hS => ?_)
      subst hw
      refine lv_goto (tgt := 337) hx hb d_P_move_101 (by decide) ?_
      exact J_2 (st.1, st.2.1, f_rwrite st.2.2.1 (st.1 0) p1 (f_load st.2.2.2 p2 (4 : Int32)), st.2.2.2) _ _ _ ⟨by simp only [if_pos c_4], hP, hD, hS, hl⟩
    by_cases c_7 : p0 = (1 : Int32)
    · refine lv_tableIn (tgt := 104) hx hb d_P_move_1 (by rw [c_7]; decide) (by rw [c_7]; decide) (by rw [c_7]; rfl) (by decide) ?_
      refine lv_aload_n hx hb d_P_move_104 rfl (lv_at hl 0 rfl) ?_
      refine va_get (D := D) (ci := 2) (v := .ref (h 3)) (C := "WindowMachine$Processor") (T := T_P) (N := 18) hx hb ht zi_P hown hK hP 0 rfl rfl 1 (by decide) (ht _ zw_117) (fun _ h9 => h9) rfl d_P_move_105 ?_
      refine lv_aload_n hx hb d_P_move_108 rfl (lv_at hl 0 rfl) ?_
      refine va_get (D := D) (ci := 2) (v := .int (st.1 0)) (C := "WindowMachine$Processor") (T := T_P) (N := 18) hx hb ht zi_P hown hK hP 0 rfl rfl 3 (by decide) (ht _ zw_120) (fun _ h9 => h9) rfl d_P_move_109 ?_
      refine lv_iload_n hx hb d_P_move_112 rfl (lv_at hl 2 rfl) ?_
      refine lv_aload_n hx hb d_P_move_113 rfl (lv_at hl 0 rfl) ?_
      refine va_get (D := D) (ci := 2) (v := .ref (h 1)) (C := "WindowMachine$Processor") (T := T_P) (N := 18) hx hb ht zi_P hown hK hP 0 rfl rfl 0 (by decide) (ht _ zw_116) (fun _ h9 => h9) rfl d_P_move_114 ?_
      refine lv_iload_n hx hb d_P_move_117 rfl (lv_at hl 3 rfl) ?_
      refine lv_iconst (v := (1 : Int32)) hx hb d_P_move_118 (by decide) ?_
      refine zc_i (w2 := fun _ => wP h c st) (va_runV (As := [.int p2, .int (1 : Int32)]) (rest := [.int p1, .int (st.1 0), .ref (h 3)]) ⟨hx, hb, hml, hown, ht⟩ (mt_M_load l D (h 1) (h 2) (c 0) H.size st.2.2.2 p2 (1 : Int32) ha) (cwV 2 ht (zgV zw_530 zw_482 zw_483 zw_2 zw_484) rfl rfl rfl kd_M_load ⟨Nat.le_of_ble_eq_true rfl, Nat.le_of_ble_eq_true rfl⟩) ⟨zw_blind zw_tt, va_recv (hK.sub (tys' := [((c 0), .int)]) [0] rfl) (hP.sub (ws' := wM (h 1) (h 2) (c 0) st.2.2.2) [1, 2] rfl) (ci := 1) (q0 := 0) rfl rfl, zw_go (hP.sub (ws' := wM (h 1) (h 2) (c 0) st.2.2.2) [1, 2] rfl) (hD.sub (ws' := wM (h 1) (h 2) (c 0) st.2.2.2) [1, 2] (by decide) rfl) (hK.sub (tys' := [((c 0), .int)]) [0] rfl) (fun _ _ _ => trivial)⟩ rfl rfl hl.1 rfl (lv_room (Nat.le_of_ble_eq_true rfl)) d_P_move_119 ⟨Nat.le_of_ble_eq_true rfl, Nat.le_of_ble_eq_true rfl⟩) hP hD hS hA [1, 2] [0, 3, 4, 5] [0, 4, 5, 1, 2, 3] rfl rfl (by decide) (by decide) (by decide) (fun _ => rfl) (fun r_8 _ H locs hw hP hD hS => ?_)
      subst hw
      refine zc_v (w2 := fun u9 => wP h c (st.1, st.2.1, u9, st.2.2.2)) (va_runV (As := [.int (st.1 0), .int p1, .int (f_load st.2.2.2 p2 (1 : Int32))]) (rest := []) ⟨hx, hb, hml, hown, ht⟩ (mt_R_write l D (h 3) (h 4) (c 1) H.size st.2.2.1 (st.1 0) p1 (f_load st.2.2.2 p2 (1 : Int32)) hW hn) (cwV 3 ht (zgV zw_553 zw_554 zw_555 zw_5 zw_556) rfl rfl rfl kd_R_write ⟨Nat.le_of_ble_eq_true rfl, Nat.le_of_ble_eq_true rfl⟩) ⟨zw_blind zw_tt, va_recv (hK.sub (tys' := [((c 1), .int)]) [1] rfl) (hP.sub (ws' := wR (h 3) (h 4) (c 1) st.2.2.1) [3, 4] rfl) (ci := 4) (q0 := 0) rfl rfl, zw_go (hP.sub (ws' := wR (h 3) (h 4) (c 1) st.2.2.1) [3, 4] rfl) (hD.sub (ws' := wR (h 3) (h 4) (c 1) st.2.2.1) [3, 4] (by decide) rfl) (hK.sub (tys' := [((c 1), .int)]) [1] rfl) (fun _ _ _ => trivial)⟩ rfl rfl hl.1 rfl (lv_room (Nat.le_of_ble_eq_true rfl)) d_P_move_122 ⟨Nat.le_of_ble_eq_true rfl, Nat.le_of_ble_eq_true rfl⟩) hP hD hS hA [3, 4] [0, 1, 2, 5] [0, 1, 2, 4, 5, 3] rfl rfl (by decide) (by decide) (by decide) (fun _ => rfl) (fun u_9 H locs hw hP hD hS => ?_)
      subst hw
      refine lv_goto (tgt := 337) hx hb d_P_move_125 (by decide) ?_
      exact J_2 (st.1, st.2.1, f_rwrite st.2.2.1 (st.1 0) p1 (f_load st.2.2.2 p2 (1 : Int32)), st.2.2.2) _ _ _ ⟨by simp only [if_neg c_4, if_pos c_7], hP, hD, hS, hl⟩
    by_cases c_10 : p0 = (2 : Int32)
    · refine lv_tableIn (tgt := 128) hx hb d_P_move_1 (by rw [c_10]; decide) (by rw [c_10]; decide) (by rw [c_10]; rfl) (by decide) ?_
      refine lv_aload_n hx hb d_P_move_128 rfl (lv_at hl 0 rfl) ?_
      refine va_get (D := D) (ci := 2) (v := .ref (h 3)) (C := "WindowMachine$Processor") (T := T_P) (N := 18) hx hb ht zi_P hown hK hP 0 rfl rfl 1 (by decide) (ht _ zw_117) (fun _ h9 => h9) rfl d_P_move_129 ?_
      refine lv_aload_n hx hb d_P_move_132 rfl (lv_at hl 0 rfl) ?_
      refine va_get (D := D) (ci := 2) (v := .int (st.1 0)) (C := "WindowMachine$Processor") (T := T_P) (N := 18) hx hb ht zi_P hown hK hP 0 rfl rfl 3 (by decide) (ht _ zw_120) (fun _ h9 => h9) rfl d_P_move_133 ?_
      refine lv_iload_n hx hb d_P_move_136 rfl (lv_at hl 2 rfl) ?_
      refine lv_aload_n hx hb d_P_move_137 rfl (lv_at hl 0 rfl) ?_
      refine va_get (D := D) (ci := 2) (v := .ref (h 1)) (C := "WindowMachine$Processor") (T := T_P) (N := 18) hx hb ht zi_P hown hK hP 0 rfl rfl 0 (by decide) (ht _ zw_116) (fun _ h9 => h9) rfl d_P_move_138 ?_
      refine lv_iload_n hx hb d_P_move_141 rfl (lv_at hl 3 rfl) ?_
      refine lv_iconst (v := (2 : Int32)) hx hb d_P_move_142 (by decide) ?_
      refine zc_i (w2 := fun _ => wP h c st) (va_runV (As := [.int p2, .int (2 : Int32)]) (rest := [.int p1, .int (st.1 0), .ref (h 3)]) ⟨hx, hb, hml, hown, ht⟩ (mt_M_load l D (h 1) (h 2) (c 0) H.size st.2.2.2 p2 (2 : Int32) ha) (cwV 2 ht (zgV zw_530 zw_482 zw_483 zw_2 zw_484) rfl rfl rfl kd_M_load ⟨Nat.le_of_ble_eq_true rfl, Nat.le_of_ble_eq_true rfl⟩) ⟨zw_blind zw_tt, va_recv (hK.sub (tys' := [((c 0), .int)]) [0] rfl) (hP.sub (ws' := wM (h 1) (h 2) (c 0) st.2.2.2) [1, 2] rfl) (ci := 1) (q0 := 0) rfl rfl, zw_go (hP.sub (ws' := wM (h 1) (h 2) (c 0) st.2.2.2) [1, 2] rfl) (hD.sub (ws' := wM (h 1) (h 2) (c 0) st.2.2.2) [1, 2] (by decide) rfl) (hK.sub (tys' := [((c 0), .int)]) [0] rfl) (fun _ _ _ => trivial)⟩ rfl rfl hl.1 rfl (lv_room (Nat.le_of_ble_eq_true rfl)) d_P_move_143 ⟨Nat.le_of_ble_eq_true rfl, Nat.le_of_ble_eq_true rfl⟩) hP hD hS hA [1, 2] [0, 3, 4, 5] [0, 4, 5, 1, 2, 3] rfl rfl (by decide) (by decide) (by decide) (fun _ => rfl) (fun r_11 _ H locs hw hP hD hS => ?_)
      subst hw
      refine zc_v (w2 := fun u9 => wP h c (st.1, st.2.1, u9, st.2.2.2)) (va_runV (As := [.int (st.1 0), .int p1, .int (f_load st.2.2.2 p2 (2 : Int32))]) (rest := []) ⟨hx, hb, hml, hown, ht⟩ (mt_R_write l D (h 3) (h 4) (c 1) H.size st.2.2.1 (st.1 0) p1 (f_load st.2.2.2 p2 (2 : Int32)) hW hn) (cwV 3 ht (zgV zw_553 zw_554 zw_555 zw_5 zw_556) rfl rfl rfl kd_R_write ⟨Nat.le_of_ble_eq_true rfl, Nat.le_of_ble_eq_true rfl⟩) ⟨zw_blind zw_tt, va_recv (hK.sub (tys' := [((c 1), .int)]) [1] rfl) (hP.sub (ws' := wR (h 3) (h 4) (c 1) st.2.2.1) [3, 4] rfl) (ci := 4) (q0 := 0) rfl rfl, zw_go (hP.sub (ws' := wR (h 3) (h 4) (c 1) st.2.2.1) [3, 4] rfl) (hD.sub (ws' := wR (h 3) (h 4) (c 1) st.2.2.1) [3, 4] (by decide) rfl) (hK.sub (tys' := [((c 1), .int)]) [1] rfl) (fun _ _ _ => trivial)⟩ rfl rfl hl.1 rfl (lv_room (Nat.le_of_ble_eq_true rfl)) d_P_move_146 ⟨Nat.le_of_ble_eq_true rfl, Nat.le_of_ble_eq_true rfl⟩) hP hD hS hA [3, 4] [0, 1, 2, 5] [0, 1, 2, 4, 5, 3] rfl rfl (by decide) (by decide) (by decide) (fun _ => rfl) (fun u_12 H locs hw hP hD hS => ?_)
      subst hw
      refine lv_goto (tgt := 337) hx hb d_P_move_149 (by decide) ?_
      exact J_2 (st.1, st.2.1, f_rwrite st.2.2.1 (st.1 0) p1 (f_load st.2.2.2 p2 (2 : Int32)), st.2.2.2) _ _ _ ⟨by simp only [if_neg c_4, if_neg c_7, if_pos c_10], hP, hD, hS, hl⟩
    by_cases c_13 : p0 = (3 : Int32)
    · refine lv_tableIn (tgt := 152) hx hb d_P_move_1 (by rw [c_13]; decide) (by rw [c_13]; decide) (by rw [c_13]; rfl) (by decide) ?_
      refine lv_aload_n hx hb d_P_move_152 rfl (lv_at hl 0 rfl) ?_
      refine lv_iload_n hx hb d_P_move_153 rfl (lv_at hl 2 rfl) ?_
      refine lv_iload_n hx hb d_P_move_154 rfl (lv_at hl 3 rfl) ?_
      refine zc_v (w2 := fun u9 => wP h c u9) (va_runV (As := [.int p1, .int p2]) (rest := []) ⟨hx, hb, hml, hown, ht⟩ (mt_P_loadTwo l D h c H.size st p1 p2 hW hn (hn1 (Or.inl c_13)) ha (ha1 (Or.inl c_13))) (cwV 2 ht (zgV zw_687 zw_689 zs_48 zw_4 zw_690) rfl rfl rfl kd_P_loadTwo ⟨Nat.le_of_ble_eq_true rfl, Nat.le_of_ble_eq_true rfl⟩) ⟨zw_blind zw_tt, va_recv (hK.sub (tys' := [(c 0, .int), (c 1, .int)]) [0, 1] rfl) (hP.sub (ws' := wP h c st) [0, 1, 2, 3, 4, 5] rfl) (ci := 2) (q0 := 0) rfl rfl, zw_go (hP.sub (ws' := wP h c st) [0, 1, 2, 3, 4, 5] rfl) (hD.sub (ws' := wP h c st) [0, 1, 2, 3, 4, 5] (by decide) rfl) (hK.sub (tys' := [(c 0, .int), (c 1, .int)]) [0, 1] rfl) (fun _ _ _ => trivial)⟩ rfl rfl hl.1 rfl (lv_room (Nat.le_of_ble_eq_true rfl)) d_P_move_155 ⟨Nat.le_of_ble_eq_true rfl, Nat.le_of_ble_eq_true rfl⟩) hP hD hS hA [0, 1, 2, 3, 4, 5] [] [0, 1, 2, 3, 4, 5] rfl rfl (by decide) (by decide) (by decide) (fun _ => rfl) (fun u_14 H locs hw hP hD hS => ?_)
      subst hw
      refine lv_goto (tgt := 337) hx hb d_P_move_158 (by decide) ?_
      exact J_2 (f_loadTwo st p1 p2) _ _ _ ⟨by simp only [if_neg c_4, if_neg c_7, if_neg c_10, if_pos c_13], hP, hD, hS, hl⟩
    by_cases c_15 : p0 = (4 : Int32)
    · refine lv_tableIn (tgt := 161) hx hb d_P_move_1 (by rw [c_15]; decide) (by rw [c_15]; decide) (by rw [c_15]; rfl) (by decide) ?_
      refine lv_aload_n hx hb d_P_move_161 rfl (lv_at hl 0 rfl) ?_
      refine va_get (D := D) (ci := 2) (v := .ref (h 1)) (C := "WindowMachine$Processor") (T := T_P) (N := 18) hx hb ht zi_P hown hK hP 0 rfl rfl 0 (by decide) (ht _ zw_116) (fun _ h9 => h9) rfl d_P_move_162 ?_
      refine lv_iload_n hx hb d_P_move_165 rfl (lv_at hl 3 rfl) ?_
      refine lv_iconst (v := (4 : Int32)) hx hb d_P_move_166 (by decide) ?_
      refine lv_aload_n hx hb d_P_move_167 rfl (lv_at hl 0 rfl) ?_
      refine va_get (D := D) (ci := 2) (v := .ref (h 3)) (C := "WindowMachine$Processor") (T := T_P) (N := 18) hx hb ht zi_P hown hK hP 0 rfl rfl 1 (by decide) (ht _ zw_117) (fun _ h9 => h9) rfl d_P_move_168 ?_
      refine lv_aload_n hx hb d_P_move_171 rfl (lv_at hl 0 rfl) ?_
      refine va_get (D := D) (ci := 2) (v := .int (st.1 0)) (C := "WindowMachine$Processor") (T := T_P) (N := 18) hx hb ht zi_P hown hK hP 0 rfl rfl 3 (by decide) (ht _ zw_120) (fun _ h9 => h9) rfl d_P_move_172 ?_
      refine lv_iload_n hx hb d_P_move_175 rfl (lv_at hl 2 rfl) ?_
      refine zc_i (w2 := fun _ => wP h c st) (va_runV (As := [.int (st.1 0), .int p1]) (rest := [.int (4 : Int32), .int p2, .ref (h 1)]) ⟨hx, hb, hml, hown, ht⟩ (mt_R_read l D (h 3) (h 4) (c 1) H.size st.2.2.1 (st.1 0) p1 hW hn) (cwV 2 ht (zgV zw_574 zw_575 zw_576 zw_5 zw_577) rfl rfl rfl kd_R_read ⟨Nat.le_of_ble_eq_true rfl, Nat.le_of_ble_eq_true rfl⟩) ⟨zw_blind zw_tt, va_recv (hK.sub (tys' := [((c 1), .int)]) [1] rfl) (hP.sub (ws' := wR (h 3) (h 4) (c 1) st.2.2.1) [3, 4] rfl) (ci := 4) (q0 := 0) rfl rfl, zw_go (hP.sub (ws' := wR (h 3) (h 4) (c 1) st.2.2.1) [3, 4] rfl) (hD.sub (ws' := wR (h 3) (h 4) (c 1) st.2.2.1) [3, 4] (by decide) rfl) (hK.sub (tys' := [((c 1), .int)]) [1] rfl) (fun _ _ _ => trivial)⟩ rfl rfl hl.1 rfl (lv_room (Nat.le_of_ble_eq_true rfl)) d_P_move_176 ⟨Nat.le_of_ble_eq_true rfl, Nat.le_of_ble_eq_true rfl⟩) hP hD hS hA [3, 4] [0, 1, 2, 5] [0, 1, 2, 4, 5, 3] rfl rfl (by decide) (by decide) (by decide) (fun _ => rfl) (fun r_16 _ H locs hw hP hD hS => ?_)
      subst hw
      refine zc_v (w2 := fun u9 => wP h c (st.1, st.2.1, st.2.2.1, u9)) (va_runV (As := [.int p2, .int (4 : Int32), .int (f_rread st.2.2.1 (st.1 0) p1)]) (rest := []) ⟨hx, hb, hml, hown, ht⟩ (mt_M_store l D (h 1) (h 2) (c 0) H.size st.2.2.2 p2 (4 : Int32) (f_rread st.2.2.1 (st.1 0) p1) ha) (cwV 3 ht (zgV zw_691 zw_465 zw_466 zw_2 zw_467) rfl rfl rfl kd_M_store ⟨Nat.le_of_ble_eq_true rfl, Nat.le_of_ble_eq_true rfl⟩) ⟨zw_blind zw_tt, va_recv (hK.sub (tys' := [((c 0), .int)]) [0] rfl) (hP.sub (ws' := wM (h 1) (h 2) (c 0) st.2.2.2) [1, 2] rfl) (ci := 1) (q0 := 0) rfl rfl, zw_go (hP.sub (ws' := wM (h 1) (h 2) (c 0) st.2.2.2) [1, 2] rfl) (hD.sub (ws' := wM (h 1) (h 2) (c 0) st.2.2.2) [1, 2] (by decide) rfl) (hK.sub (tys' := [((c 0), .int)]) [0] rfl) (fun _ _ _ => trivial)⟩ rfl rfl hl.1 rfl (lv_room (Nat.le_of_ble_eq_true rfl)) d_P_move_179 ⟨Nat.le_of_ble_eq_true rfl, Nat.le_of_ble_eq_true rfl⟩) hP hD hS hA [1, 2] [0, 3, 4, 5] [0, 4, 5, 1, 2, 3] rfl rfl (by decide) (by decide) (by decide) (fun _ => rfl) (fun u_17 H locs hw hP hD hS => ?_)
      subst hw
      refine lv_goto (tgt := 337) hx hb d_P_move_182 (by decide) ?_
      exact J_2 (st.1, st.2.1, st.2.2.1, f_store st.2.2.2 p2 (4 : Int32) (f_rread st.2.2.1 (st.1 0) p1)) _ _ _ ⟨by simp only [if_neg c_4, if_neg c_7, if_neg c_10, if_neg c_13, if_pos c_15], hP, hD, hS, hl⟩
    by_cases c_18 : p0 = (5 : Int32)
    · refine lv_tableIn (tgt := 185) hx hb d_P_move_1 (by rw [c_18]; decide) (by rw [c_18]; decide) (by rw [c_18]; rfl) (by decide) ?_
      refine lv_aload_n hx hb d_P_move_185 rfl (lv_at hl 0 rfl) ?_
      refine va_get (D := D) (ci := 2) (v := .ref (h 1)) (C := "WindowMachine$Processor") (T := T_P) (N := 18) hx hb ht zi_P hown hK hP 0 rfl rfl 0 (by decide) (ht _ zw_116) (fun _ h9 => h9) rfl d_P_move_186 ?_
      refine lv_iload_n hx hb d_P_move_189 rfl (lv_at hl 3 rfl) ?_
      refine lv_iconst (v := (1 : Int32)) hx hb d_P_move_190 (by decide) ?_
      refine lv_aload_n hx hb d_P_move_191 rfl (lv_at hl 0 rfl) ?_
      refine va_get (D := D) (ci := 2) (v := .ref (h 3)) (C := "WindowMachine$Processor") (T := T_P) (N := 18) hx hb ht zi_P hown hK hP 0 rfl rfl 1 (by decide) (ht _ zw_117) (fun _ h9 => h9) rfl d_P_move_192 ?_
      refine lv_aload_n hx hb d_P_move_195 rfl (lv_at hl 0 rfl) ?_
      refine va_get (D := D) (ci := 2) (v := .int (st.1 0)) (C := "WindowMachine$Processor") (T := T_P) (N := 18) hx hb ht zi_P hown hK hP 0 rfl rfl 3 (by decide) (ht _ zw_120) (fun _ h9 => h9) rfl d_P_move_196 ?_
      refine lv_iload_n hx hb d_P_move_199 rfl (lv_at hl 2 rfl) ?_
      refine zc_i (w2 := fun _ => wP h c st) (va_runV (As := [.int (st.1 0), .int p1]) (rest := [.int (1 : Int32), .int p2, .ref (h 1)]) ⟨hx, hb, hml, hown, ht⟩ (mt_R_read l D (h 3) (h 4) (c 1) H.size st.2.2.1 (st.1 0) p1 hW hn) (cwV 2 ht (zgV zw_574 zw_575 zw_576 zw_5 zw_577) rfl rfl rfl kd_R_read ⟨Nat.le_of_ble_eq_true rfl, Nat.le_of_ble_eq_true rfl⟩) ⟨zw_blind zw_tt, va_recv (hK.sub (tys' := [((c 1), .int)]) [1] rfl) (hP.sub (ws' := wR (h 3) (h 4) (c 1) st.2.2.1) [3, 4] rfl) (ci := 4) (q0 := 0) rfl rfl, zw_go (hP.sub (ws' := wR (h 3) (h 4) (c 1) st.2.2.1) [3, 4] rfl) (hD.sub (ws' := wR (h 3) (h 4) (c 1) st.2.2.1) [3, 4] (by decide) rfl) (hK.sub (tys' := [((c 1), .int)]) [1] rfl) (fun _ _ _ => trivial)⟩ rfl rfl hl.1 rfl (lv_room (Nat.le_of_ble_eq_true rfl)) d_P_move_200 ⟨Nat.le_of_ble_eq_true rfl, Nat.le_of_ble_eq_true rfl⟩) hP hD hS hA [3, 4] [0, 1, 2, 5] [0, 1, 2, 4, 5, 3] rfl rfl (by decide) (by decide) (by decide) (fun _ => rfl) (fun r_19 _ H locs hw hP hD hS => ?_)
      subst hw
      refine zc_v (w2 := fun u9 => wP h c (st.1, st.2.1, st.2.2.1, u9)) (va_runV (As := [.int p2, .int (1 : Int32), .int (f_rread st.2.2.1 (st.1 0) p1)]) (rest := []) ⟨hx, hb, hml, hown, ht⟩ (mt_M_store l D (h 1) (h 2) (c 0) H.size st.2.2.2 p2 (1 : Int32) (f_rread st.2.2.1 (st.1 0) p1) ha) (cwV 3 ht (zgV zw_691 zw_465 zw_466 zw_2 zw_467) rfl rfl rfl kd_M_store ⟨Nat.le_of_ble_eq_true rfl, Nat.le_of_ble_eq_true rfl⟩) ⟨zw_blind zw_tt, va_recv (hK.sub (tys' := [((c 0), .int)]) [0] rfl) (hP.sub (ws' := wM (h 1) (h 2) (c 0) st.2.2.2) [1, 2] rfl) (ci := 1) (q0 := 0) rfl rfl, zw_go (hP.sub (ws' := wM (h 1) (h 2) (c 0) st.2.2.2) [1, 2] rfl) (hD.sub (ws' := wM (h 1) (h 2) (c 0) st.2.2.2) [1, 2] (by decide) rfl) (hK.sub (tys' := [((c 0), .int)]) [0] rfl) (fun _ _ _ => trivial)⟩ rfl rfl hl.1 rfl (lv_room (Nat.le_of_ble_eq_true rfl)) d_P_move_203 ⟨Nat.le_of_ble_eq_true rfl, Nat.le_of_ble_eq_true rfl⟩) hP hD hS hA [1, 2] [0, 3, 4, 5] [0, 4, 5, 1, 2, 3] rfl rfl (by decide) (by decide) (by decide) (fun _ => rfl) (fun u_20 H locs hw hP hD hS => ?_)
      subst hw
      refine lv_goto (tgt := 337) hx hb d_P_move_206 (by decide) ?_
      exact J_2 (st.1, st.2.1, st.2.2.1, f_store st.2.2.2 p2 (1 : Int32) (f_rread st.2.2.1 (st.1 0) p1)) _ _ _ ⟨by simp only [if_neg c_4, if_neg c_7, if_neg c_10, if_neg c_13, if_neg c_15, if_pos c_18], hP, hD, hS, hl⟩
    by_cases c_21 : p0 = (6 : Int32)
    · refine lv_tableIn (tgt := 209) hx hb d_P_move_1 (by rw [c_21]; decide) (by rw [c_21]; decide) (by rw [c_21]; rfl) (by decide) ?_
      refine lv_aload_n hx hb d_P_move_209 rfl (lv_at hl 0 rfl) ?_
      refine va_get (D := D) (ci := 2) (v := .ref (h 1)) (C := "WindowMachine$Processor") (T := T_P) (N := 18) hx hb ht zi_P hown hK hP 0 rfl rfl 0 (by decide) (ht _ zw_116) (fun _ h9 => h9) rfl d_P_move_210 ?_
      refine lv_iload_n hx hb d_P_move_213 rfl (lv_at hl 3 rfl) ?_
      refine lv_iconst (v := (2 : Int32)) hx hb d_P_move_214 (by decide) ?_
      refine lv_aload_n hx hb d_P_move_215 rfl (lv_at hl 0 rfl) ?_
      refine va_get (D := D) (ci := 2) (v := .ref (h 3)) (C := "WindowMachine$Processor") (T := T_P) (N := 18) hx hb ht zi_P hown hK hP 0 rfl rfl 1 (by decide) (ht _ zw_117) (fun _ h9 => h9) rfl d_P_move_216 ?_
      refine lv_aload_n hx hb d_P_move_219 rfl (lv_at hl 0 rfl) ?_
      refine va_get (D := D) (ci := 2) (v := .int (st.1 0)) (C := "WindowMachine$Processor") (T := T_P) (N := 18) hx hb ht zi_P hown hK hP 0 rfl rfl 3 (by decide) (ht _ zw_120) (fun _ h9 => h9) rfl d_P_move_220 ?_
      refine lv_iload_n hx hb d_P_move_223 rfl (lv_at hl 2 rfl) ?_
      refine zc_i (w2 := fun _ => wP h c st) (va_runV (As := [.int (st.1 0), .int p1]) (rest := [.int (2 : Int32), .int p2, .ref (h 1)]) ⟨hx, hb, hml, hown, ht⟩ (mt_R_read l D (h 3) (h 4) (c 1) H.size st.2.2.1 (st.1 0) p1 hW hn) (cwV 2 ht (zgV zw_574 zw_575 zw_576 zw_5 zw_577) rfl rfl rfl kd_R_read ⟨Nat.le_of_ble_eq_true rfl, Nat.le_of_ble_eq_true rfl⟩) ⟨zw_blind zw_tt, va_recv (hK.sub (tys' := [((c 1), .int)]) [1] rfl) (hP.sub (ws' := wR (h 3) (h 4) (c 1) st.2.2.1) [3, 4] rfl) (ci := 4) (q0 := 0) rfl rfl, zw_go (hP.sub (ws' := wR (h 3) (h 4) (c 1) st.2.2.1) [3, 4] rfl) (hD.sub (ws' := wR (h 3) (h 4) (c 1) st.2.2.1) [3, 4] (by decide) rfl) (hK.sub (tys' := [((c 1), .int)]) [1] rfl) (fun _ _ _ => trivial)⟩ rfl rfl hl.1 rfl (lv_room (Nat.le_of_ble_eq_true rfl)) d_P_move_224 ⟨Nat.le_of_ble_eq_true rfl, Nat.le_of_ble_eq_true rfl⟩) hP hD hS hA [3, 4] [0, 1, 2, 5] [0, 1, 2, 4, 5, 3] rfl rfl (by decide) (by decide) (by decide) (fun _ => rfl) (fun r_22 _ H locs hw hP hD hS => ?_)
      subst hw
      refine zc_v (w2 := fun u9 => wP h c (st.1, st.2.1, st.2.2.1, u9)) (va_runV (As := [.int p2, .int (2 : Int32), .int (f_rread st.2.2.1 (st.1 0) p1)]) (rest := []) ⟨hx, hb, hml, hown, ht⟩ (mt_M_store l D (h 1) (h 2) (c 0) H.size st.2.2.2 p2 (2 : Int32) (f_rread st.2.2.1 (st.1 0) p1) ha) (cwV 3 ht (zgV zw_691 zw_465 zw_466 zw_2 zw_467) rfl rfl rfl kd_M_store ⟨Nat.le_of_ble_eq_true rfl, Nat.le_of_ble_eq_true rfl⟩) ⟨zw_blind zw_tt, va_recv (hK.sub (tys' := [((c 0), .int)]) [0] rfl) (hP.sub (ws' := wM (h 1) (h 2) (c 0) st.2.2.2) [1, 2] rfl) (ci := 1) (q0 := 0) rfl rfl, zw_go (hP.sub (ws' := wM (h 1) (h 2) (c 0) st.2.2.2) [1, 2] rfl) (hD.sub (ws' := wM (h 1) (h 2) (c 0) st.2.2.2) [1, 2] (by decide) rfl) (hK.sub (tys' := [((c 0), .int)]) [0] rfl) (fun _ _ _ => trivial)⟩ rfl rfl hl.1 rfl (lv_room (Nat.le_of_ble_eq_true rfl)) d_P_move_227 ⟨Nat.le_of_ble_eq_true rfl, Nat.le_of_ble_eq_true rfl⟩) hP hD hS hA [1, 2] [0, 3, 4, 5] [0, 4, 5, 1, 2, 3] rfl rfl (by decide) (by decide) (by decide) (fun _ => rfl) (fun u_23 H locs hw hP hD hS => ?_)
      subst hw
      refine lv_goto (tgt := 337) hx hb d_P_move_230 (by decide) ?_
      exact J_2 (st.1, st.2.1, st.2.2.1, f_store st.2.2.2 p2 (2 : Int32) (f_rread st.2.2.1 (st.1 0) p1)) _ _ _ ⟨by simp only [if_neg c_4, if_neg c_7, if_neg c_10, if_neg c_13, if_neg c_15, if_neg c_18, if_pos c_21], hP, hD, hS, hl⟩
    by_cases c_24 : p0 = (7 : Int32)
    · refine lv_tableIn (tgt := 233) hx hb d_P_move_1 (by rw [c_24]; decide) (by rw [c_24]; decide) (by rw [c_24]; rfl) (by decide) ?_
      refine lv_aload_n hx hb d_P_move_233 rfl (lv_at hl 0 rfl) ?_
      refine lv_iload_n hx hb d_P_move_234 rfl (lv_at hl 2 rfl) ?_
      refine lv_iload_n hx hb d_P_move_235 rfl (lv_at hl 3 rfl) ?_
      refine zc_v (w2 := fun u9 => wP h c u9) (va_runV (As := [.int p1, .int p2]) (rest := []) ⟨hx, hb, hml, hown, ht⟩ (mt_P_storeTwo l D h c H.size st p1 p2 hW hn (hn1 (Or.inr c_24)) ha (ha1 (Or.inr c_24))) (cwV 2 ht (zgV zw_692 zw_694 zs_49 zw_4 zw_695) rfl rfl rfl kd_P_storeTwo ⟨Nat.le_of_ble_eq_true rfl, Nat.le_of_ble_eq_true rfl⟩) ⟨zw_blind zw_tt, va_recv (hK.sub (tys' := [(c 0, .int), (c 1, .int)]) [0, 1] rfl) (hP.sub (ws' := wP h c st) [0, 1, 2, 3, 4, 5] rfl) (ci := 2) (q0 := 0) rfl rfl, zw_go (hP.sub (ws' := wP h c st) [0, 1, 2, 3, 4, 5] rfl) (hD.sub (ws' := wP h c st) [0, 1, 2, 3, 4, 5] (by decide) rfl) (hK.sub (tys' := [(c 0, .int), (c 1, .int)]) [0, 1] rfl) (fun _ _ _ => trivial)⟩ rfl rfl hl.1 rfl (lv_room (Nat.le_of_ble_eq_true rfl)) d_P_move_236 ⟨Nat.le_of_ble_eq_true rfl, Nat.le_of_ble_eq_true rfl⟩) hP hD hS hA [0, 1, 2, 3, 4, 5] [] [0, 1, 2, 3, 4, 5] rfl rfl (by decide) (by decide) (by decide) (fun _ => rfl) (fun u_25 H locs hw hP hD hS => ?_)
      subst hw
      refine lv_goto (tgt := 337) hx hb d_P_move_239 (by decide) ?_
      exact J_2 (f_storeTwo st p1 p2) _ _ _ ⟨by simp only [if_neg c_4, if_neg c_7, if_neg c_10, if_neg c_13, if_neg c_15, if_neg c_18, if_neg c_21, if_pos c_24], hP, hD, hS, hl⟩
    by_cases c_26 : p0 = (9 : Int32)
    · refine lv_tableIn (tgt := 242) hx hb d_P_move_1 (by rw [c_26]; decide) (by rw [c_26]; decide) (by rw [c_26]; rfl) (by decide) ?_
      refine lv_aload_n hx hb d_P_move_242 rfl (lv_at hl 0 rfl) ?_
      refine va_get (D := D) (ci := 2) (v := .ref (h 3)) (C := "WindowMachine$Processor") (T := T_P) (N := 18) hx hb ht zi_P hown hK hP 0 rfl rfl 1 (by decide) (ht _ zw_117) (fun _ h9 => h9) rfl d_P_move_243 ?_
      refine lv_aload_n hx hb d_P_move_246 rfl (lv_at hl 0 rfl) ?_
      refine va_get (D := D) (ci := 2) (v := .int (st.1 0)) (C := "WindowMachine$Processor") (T := T_P) (N := 18) hx hb ht zi_P hown hK hP 0 rfl rfl 3 (by decide) (ht _ zw_120) (fun _ h9 => h9) rfl d_P_move_247 ?_
      refine lv_iload_n hx hb d_P_move_250 rfl (lv_at hl 2 rfl) ?_
      refine lv_aload_n hx hb d_P_move_251 rfl (lv_at hl 0 rfl) ?_
      refine va_get (D := D) (ci := 2) (v := .ref (h 1)) (C := "WindowMachine$Processor") (T := T_P) (N := 18) hx hb ht zi_P hown hK hP 0 rfl rfl 0 (by decide) (ht _ zw_116) (fun _ h9 => h9) rfl d_P_move_252 ?_
      refine lv_iload_n hx hb d_P_move_255 rfl (lv_at hl 3 rfl) ?_
      refine lv_iconst (v := (1 : Int32)) hx hb d_P_move_256 (by decide) ?_
      refine zc_i (w2 := fun _ => wP h c st) (va_runV (As := [.int p2, .int (1 : Int32)]) (rest := [.int p1, .int (st.1 0), .ref (h 3)]) ⟨hx, hb, hml, hown, ht⟩ (mt_M_load l D (h 1) (h 2) (c 0) H.size st.2.2.2 p2 (1 : Int32) ha) (cwV 2 ht (zgV zw_530 zw_482 zw_483 zw_2 zw_484) rfl rfl rfl kd_M_load ⟨Nat.le_of_ble_eq_true rfl, Nat.le_of_ble_eq_true rfl⟩) ⟨zw_blind zw_tt, va_recv (hK.sub (tys' := [((c 0), .int)]) [0] rfl) (hP.sub (ws' := wM (h 1) (h 2) (c 0) st.2.2.2) [1, 2] rfl) (ci := 1) (q0 := 0) rfl rfl, zw_go (hP.sub (ws' := wM (h 1) (h 2) (c 0) st.2.2.2) [1, 2] rfl) (hD.sub (ws' := wM (h 1) (h 2) (c 0) st.2.2.2) [1, 2] (by decide) rfl) (hK.sub (tys' := [((c 0), .int)]) [0] rfl) (fun _ _ _ => trivial)⟩ rfl rfl hl.1 rfl (lv_room (Nat.le_of_ble_eq_true rfl)) d_P_move_257 ⟨Nat.le_of_ble_eq_true rfl, Nat.le_of_ble_eq_true rfl⟩) hP hD hS hA [1, 2] [0, 3, 4, 5] [0, 4, 5, 1, 2, 3] rfl rfl (by decide) (by decide) (by decide) (fun _ => rfl) (fun r_27 _ H locs hw hP hD hS => ?_)
      subst hw
      refine lv_bipush (v := (24 : Int32)) hx hb d_P_move_260 (by decide) ?_
      refine lv_ishl hx hb d_P_move_262 ?_
      refine lv_bipush (v := (24 : Int32)) hx hb d_P_move_263 (by decide) ?_
      refine lv_ishr hx hb d_P_move_265 ?_
      refine zc_v (w2 := fun u9 => wP h c (st.1, st.2.1, u9, st.2.2.2)) (va_runV (As := [.int (st.1 0), .int p1, .int (((f_load st.2.2.2 p2 (1 : Int32)) <<< ((24 : Int32) &&& 31)) >>> ((24 : Int32) &&& 31))]) (rest := []) ⟨hx, hb, hml, hown, ht⟩ (mt_R_write l D (h 3) (h 4) (c 1) H.size st.2.2.1 (st.1 0) p1 (((f_load st.2.2.2 p2 (1 : Int32)) <<< ((24 : Int32) &&& 31)) >>> ((24 : Int32) &&& 31)) hW hn) (cwV 3 ht (zgV zw_553 zw_554 zw_555 zw_5 zw_556) rfl rfl rfl kd_R_write ⟨Nat.le_of_ble_eq_true rfl, Nat.le_of_ble_eq_true rfl⟩) ⟨zw_blind zw_tt, va_recv (hK.sub (tys' := [((c 1), .int)]) [1] rfl) (hP.sub (ws' := wR (h 3) (h 4) (c 1) st.2.2.1) [3, 4] rfl) (ci := 4) (q0 := 0) rfl rfl, zw_go (hP.sub (ws' := wR (h 3) (h 4) (c 1) st.2.2.1) [3, 4] rfl) (hD.sub (ws' := wR (h 3) (h 4) (c 1) st.2.2.1) [3, 4] (by decide) rfl) (hK.sub (tys' := [((c 1), .int)]) [1] rfl) (fun _ _ _ => trivial)⟩ rfl rfl hl.1 rfl (lv_room (Nat.le_of_ble_eq_true rfl)) d_P_move_266 ⟨Nat.le_of_ble_eq_true rfl, Nat.le_of_ble_eq_true rfl⟩) hP hD hS hA [3, 4] [0, 1, 2, 5] [0, 1, 2, 4, 5, 3] rfl rfl (by decide) (by decide) (by decide) (fun _ => rfl) (fun u_28 H locs hw hP hD hS => ?_)
      subst hw
      refine lv_goto (tgt := 337) hx hb d_P_move_269 (by decide) ?_
      exact J_2 (st.1, st.2.1, f_rwrite st.2.2.1 (st.1 0) p1 (((f_load st.2.2.2 p2 (1 : Int32)) <<< ((24 : Int32) &&& 31)) >>> ((24 : Int32) &&& 31)), st.2.2.2) _ _ _ ⟨by simp only [if_neg c_4, if_neg c_7, if_neg c_10, if_neg c_13, if_neg c_15, if_neg c_18, if_neg c_21, if_neg c_24, if_pos c_26], hP, hD, hS, hl⟩
    by_cases c_29 : p0 = (10 : Int32)
    · refine lv_tableIn (tgt := 272) hx hb d_P_move_1 (by rw [c_29]; decide) (by rw [c_29]; decide) (by rw [c_29]; rfl) (by decide) ?_
      refine lv_aload_n hx hb d_P_move_272 rfl (lv_at hl 0 rfl) ?_
      refine va_get (D := D) (ci := 2) (v := .ref (h 3)) (C := "WindowMachine$Processor") (T := T_P) (N := 18) hx hb ht zi_P hown hK hP 0 rfl rfl 1 (by decide) (ht _ zw_117) (fun _ h9 => h9) rfl d_P_move_273 ?_
      refine lv_aload_n hx hb d_P_move_276 rfl (lv_at hl 0 rfl) ?_
      refine va_get (D := D) (ci := 2) (v := .int (st.1 0)) (C := "WindowMachine$Processor") (T := T_P) (N := 18) hx hb ht zi_P hown hK hP 0 rfl rfl 3 (by decide) (ht _ zw_120) (fun _ h9 => h9) rfl d_P_move_277 ?_
      refine lv_iload_n hx hb d_P_move_280 rfl (lv_at hl 2 rfl) ?_
      refine lv_aload_n hx hb d_P_move_281 rfl (lv_at hl 0 rfl) ?_
      refine va_get (D := D) (ci := 2) (v := .ref (h 1)) (C := "WindowMachine$Processor") (T := T_P) (N := 18) hx hb ht zi_P hown hK hP 0 rfl rfl 0 (by decide) (ht _ zw_116) (fun _ h9 => h9) rfl d_P_move_282 ?_
      refine lv_iload_n hx hb d_P_move_285 rfl (lv_at hl 3 rfl) ?_
      refine lv_iconst (v := (2 : Int32)) hx hb d_P_move_286 (by decide) ?_
      refine zc_i (w2 := fun _ => wP h c st) (va_runV (As := [.int p2, .int (2 : Int32)]) (rest := [.int p1, .int (st.1 0), .ref (h 3)]) ⟨hx, hb, hml, hown, ht⟩ (mt_M_load l D (h 1) (h 2) (c 0) H.size st.2.2.2 p2 (2 : Int32) ha) (cwV 2 ht (zgV zw_530 zw_482 zw_483 zw_2 zw_484) rfl rfl rfl kd_M_load ⟨Nat.le_of_ble_eq_true rfl, Nat.le_of_ble_eq_true rfl⟩) ⟨zw_blind zw_tt, va_recv (hK.sub (tys' := [((c 0), .int)]) [0] rfl) (hP.sub (ws' := wM (h 1) (h 2) (c 0) st.2.2.2) [1, 2] rfl) (ci := 1) (q0 := 0) rfl rfl, zw_go (hP.sub (ws' := wM (h 1) (h 2) (c 0) st.2.2.2) [1, 2] rfl) (hD.sub (ws' := wM (h 1) (h 2) (c 0) st.2.2.2) [1, 2] (by decide) rfl) (hK.sub (tys' := [((c 0), .int)]) [0] rfl) (fun _ _ _ => trivial)⟩ rfl rfl hl.1 rfl (lv_room (Nat.le_of_ble_eq_true rfl)) d_P_move_287 ⟨Nat.le_of_ble_eq_true rfl, Nat.le_of_ble_eq_true rfl⟩) hP hD hS hA [1, 2] [0, 3, 4, 5] [0, 4, 5, 1, 2, 3] rfl rfl (by decide) (by decide) (by decide) (fun _ => rfl) (fun r_30 _ H locs hw hP hD hS => ?_)
      subst hw
      refine lv_bipush (v := (16 : Int32)) hx hb d_P_move_290 (by decide) ?_
      refine lv_ishl hx hb d_P_move_292 ?_
      refine lv_bipush (v := (16 : Int32)) hx hb d_P_move_293 (by decide) ?_
      refine lv_ishr hx hb d_P_move_295 ?_
      refine zc_v (w2 := fun u9 => wP h c (st.1, st.2.1, u9, st.2.2.2)) (va_runV (As := [.int (st.1 0), .int p1, .int (((f_load st.2.2.2 p2 (2 : Int32)) <<< ((16 : Int32) &&& 31)) >>> ((16 : Int32) &&& 31))]) (rest := []) ⟨hx, hb, hml, hown, ht⟩ (mt_R_write l D (h 3) (h 4) (c 1) H.size st.2.2.1 (st.1 0) p1 (((f_load st.2.2.2 p2 (2 : Int32)) <<< ((16 : Int32) &&& 31)) >>> ((16 : Int32) &&& 31)) hW hn) (cwV 3 ht (zgV zw_553 zw_554 zw_555 zw_5 zw_556) rfl rfl rfl kd_R_write ⟨Nat.le_of_ble_eq_true rfl, Nat.le_of_ble_eq_true rfl⟩) ⟨zw_blind zw_tt, va_recv (hK.sub (tys' := [((c 1), .int)]) [1] rfl) (hP.sub (ws' := wR (h 3) (h 4) (c 1) st.2.2.1) [3, 4] rfl) (ci := 4) (q0 := 0) rfl rfl, zw_go (hP.sub (ws' := wR (h 3) (h 4) (c 1) st.2.2.1) [3, 4] rfl) (hD.sub (ws' := wR (h 3) (h 4) (c 1) st.2.2.1) [3, 4] (by decide) rfl) (hK.sub (tys' := [((c 1), .int)]) [1] rfl) (fun _ _ _ => trivial)⟩ rfl rfl hl.1 rfl (lv_room (Nat.le_of_ble_eq_true rfl)) d_P_move_296 ⟨Nat.le_of_ble_eq_true rfl, Nat.le_of_ble_eq_true rfl⟩) hP hD hS hA [3, 4] [0, 1, 2, 5] [0, 1, 2, 4, 5, 3] rfl rfl (by decide) (by decide) (by decide) (fun _ => rfl) (fun u_31 H locs hw hP hD hS => ?_)
      subst hw
      refine lv_goto (tgt := 337) hx hb d_P_move_299 (by decide) ?_
      exact J_2 (st.1, st.2.1, f_rwrite st.2.2.1 (st.1 0) p1 (((f_load st.2.2.2 p2 (2 : Int32)) <<< ((16 : Int32) &&& 31)) >>> ((16 : Int32) &&& 31)), st.2.2.2) _ _ _ ⟨by simp only [if_neg c_4, if_neg c_7, if_neg c_10, if_neg c_13, if_neg c_15, if_neg c_18, if_neg c_21, if_neg c_24, if_neg c_26, if_pos c_29], hP, hD, hS, hl⟩
    by_cases c_32 : p0 = (13 : Int32)
    · refine lv_tableIn (tgt := 302) hx hb d_P_move_1 (by rw [c_32]; decide) (by rw [c_32]; decide) (by rw [c_32]; rfl) (by decide) ?_
      refine lv_aload_n hx hb d_P_move_302 rfl (lv_at hl 0 rfl) ?_
      refine lv_iload_n hx hb d_P_move_303 rfl (lv_at hl 2 rfl) ?_
      refine lv_iload_n hx hb d_P_move_304 rfl (lv_at hl 3 rfl) ?_
      refine lv_iconst (v := (1 : Int32)) hx hb d_P_move_305 (by decide) ?_
      refine lv_sipush (v := (255 : Int32)) hx hb d_P_move_306 (by decide) ?_
      refine zc_v (w2 := fun u9 => wP h c u9) (va_runV (As := [.int p1, .int p2, .int (1 : Int32), .int (255 : Int32)]) (rest := []) ⟨hx, hb, hml, hown, ht⟩ (mt_P_exchange l D h c H.size st p1 p2 (1 : Int32) (255 : Int32) hW hn ha) (cwV 4 ht (zgV zw_696 zw_698 zs_50 zw_4 zw_699) rfl rfl rfl kd_P_exchange ⟨Nat.le_of_ble_eq_true rfl, Nat.le_of_ble_eq_true rfl⟩) ⟨zw_blind zw_tt, va_recv (hK.sub (tys' := [(c 0, .int), (c 1, .int)]) [0, 1] rfl) (hP.sub (ws' := wP h c st) [0, 1, 2, 3, 4, 5] rfl) (ci := 2) (q0 := 0) rfl rfl, zw_go (hP.sub (ws' := wP h c st) [0, 1, 2, 3, 4, 5] rfl) (hD.sub (ws' := wP h c st) [0, 1, 2, 3, 4, 5] (by decide) rfl) (hK.sub (tys' := [(c 0, .int), (c 1, .int)]) [0, 1] rfl) (fun _ _ _ => trivial)⟩ rfl rfl hl.1 rfl (lv_room (Nat.le_of_ble_eq_true rfl)) d_P_move_309 ⟨Nat.le_of_ble_eq_true rfl, Nat.le_of_ble_eq_true rfl⟩) hP hD hS hA [0, 1, 2, 3, 4, 5] [] [0, 1, 2, 3, 4, 5] rfl rfl (by decide) (by decide) (by decide) (fun _ => rfl) (fun u_33 H locs hw hP hD hS => ?_)
      subst hw
      refine lv_goto (tgt := 337) hx hb d_P_move_312 (by decide) ?_
      exact J_2 (f_exchange st p1 p2 (1 : Int32) (255 : Int32)) _ _ _ ⟨by simp only [if_neg c_4, if_neg c_7, if_neg c_10, if_neg c_13, if_neg c_15, if_neg c_18, if_neg c_21, if_neg c_24, if_neg c_26, if_neg c_29, if_pos c_32], hP, hD, hS, hl⟩
    by_cases c_34 : p0 = (15 : Int32)
    · refine lv_tableIn (tgt := 315) hx hb d_P_move_1 (by rw [c_34]; decide) (by rw [c_34]; decide) (by rw [c_34]; rfl) (by decide) ?_
      refine lv_aload_n hx hb d_P_move_315 rfl (lv_at hl 0 rfl) ?_
      refine lv_iload_n hx hb d_P_move_316 rfl (lv_at hl 2 rfl) ?_
      refine lv_iload_n hx hb d_P_move_317 rfl (lv_at hl 3 rfl) ?_
      refine lv_iconst (v := (4 : Int32)) hx hb d_P_move_318 (by decide) ?_
      refine lv_aload_n hx hb d_P_move_319 rfl (lv_at hl 0 rfl) ?_
      refine va_get (D := D) (ci := 2) (v := .ref (h 3)) (C := "WindowMachine$Processor") (T := T_P) (N := 18) hx hb ht zi_P hown hK hP 0 rfl rfl 1 (by decide) (ht _ zw_117) (fun _ h9 => h9) rfl d_P_move_320 ?_
      refine lv_aload_n hx hb d_P_move_323 rfl (lv_at hl 0 rfl) ?_
      refine va_get (D := D) (ci := 2) (v := .int (st.1 0)) (C := "WindowMachine$Processor") (T := T_P) (N := 18) hx hb ht zi_P hown hK hP 0 rfl rfl 3 (by decide) (ht _ zw_120) (fun _ h9 => h9) rfl d_P_move_324 ?_
      refine lv_iload_n hx hb d_P_move_327 rfl (lv_at hl 2 rfl) ?_
      refine zc_i (w2 := fun _ => wP h c st) (va_runV (As := [.int (st.1 0), .int p1]) (rest := [.int (4 : Int32), .int p2, .int p1, .ref (h 0)]) ⟨hx, hb, hml, hown, ht⟩ (mt_R_read l D (h 3) (h 4) (c 1) H.size st.2.2.1 (st.1 0) p1 hW hn) (cwV 2 ht (zgV zw_574 zw_575 zw_576 zw_5 zw_577) rfl rfl rfl kd_R_read ⟨Nat.le_of_ble_eq_true rfl, Nat.le_of_ble_eq_true rfl⟩) ⟨zw_blind zw_tt, va_recv (hK.sub (tys' := [((c 1), .int)]) [1] rfl) (hP.sub (ws' := wR (h 3) (h 4) (c 1) st.2.2.1) [3, 4] rfl) (ci := 4) (q0 := 0) rfl rfl, zw_go (hP.sub (ws' := wR (h 3) (h 4) (c 1) st.2.2.1) [3, 4] rfl) (hD.sub (ws' := wR (h 3) (h 4) (c 1) st.2.2.1) [3, 4] (by decide) rfl) (hK.sub (tys' := [((c 1), .int)]) [1] rfl) (fun _ _ _ => trivial)⟩ rfl rfl hl.1 rfl (lv_room (Nat.le_of_ble_eq_true rfl)) d_P_move_328 ⟨Nat.le_of_ble_eq_true rfl, Nat.le_of_ble_eq_true rfl⟩) hP hD hS hA [3, 4] [0, 1, 2, 5] [0, 1, 2, 4, 5, 3] rfl rfl (by decide) (by decide) (by decide) (fun _ => rfl) (fun r_35 _ H locs hw hP hD hS => ?_)
      subst hw
      refine zc_v (w2 := fun u9 => wP h c u9) (va_runV (As := [.int p1, .int p2, .int (4 : Int32), .int (f_rread st.2.2.1 (st.1 0) p1)]) (rest := []) ⟨hx, hb, hml, hown, ht⟩ (mt_P_exchange l D h c H.size st p1 p2 (4 : Int32) (f_rread st.2.2.1 (st.1 0) p1) hW hn ha) (cwV 4 ht (zgV zw_696 zw_698 zs_50 zw_4 zw_699) rfl rfl rfl kd_P_exchange ⟨Nat.le_of_ble_eq_true rfl, Nat.le_of_ble_eq_true rfl⟩) ⟨zw_blind zw_tt, va_recv (hK.sub (tys' := [(c 0, .int), (c 1, .int)]) [0, 1] rfl) (hP.sub (ws' := wP h c st) [0, 1, 2, 3, 4, 5] rfl) (ci := 2) (q0 := 0) rfl rfl, zw_go (hP.sub (ws' := wP h c st) [0, 1, 2, 3, 4, 5] rfl) (hD.sub (ws' := wP h c st) [0, 1, 2, 3, 4, 5] (by decide) rfl) (hK.sub (tys' := [(c 0, .int), (c 1, .int)]) [0, 1] rfl) (fun _ _ _ => trivial)⟩ rfl rfl hl.1 rfl (lv_room (Nat.le_of_ble_eq_true rfl)) d_P_move_331 ⟨Nat.le_of_ble_eq_true rfl, Nat.le_of_ble_eq_true rfl⟩) hP hD hS hA [0, 1, 2, 3, 4, 5] [] [0, 1, 2, 3, 4, 5] rfl rfl (by decide) (by decide) (by decide) (fun _ => rfl) (fun u_36 H locs hw hP hD hS => ?_)
      subst hw
      refine lv_goto (tgt := 337) hx hb d_P_move_334 (by decide) ?_
      exact J_2 (f_exchange st p1 p2 (4 : Int32) (f_rread st.2.2.1 (st.1 0) p1)) _ _ _ ⟨by simp only [if_neg c_4, if_neg c_7, if_neg c_10, if_neg c_13, if_neg c_15, if_neg c_18, if_neg c_21, if_neg c_24, if_neg c_26, if_neg c_29, if_neg c_32, if_pos c_34], hP, hD, hS, hl⟩
    refine zsame (g := F0 m 337 ls []) ?_ (fun hd_3 => ?_)
    · exact J_2 st _ _ _ ⟨by simp only [if_neg c_4, if_neg c_7, if_neg c_10, if_neg c_13, if_neg c_15, if_neg c_18, if_neg c_21, if_neg c_24, if_neg c_26, if_neg c_29, if_neg c_32, if_neg c_34], hP, hD, hS, hl⟩
    by_cases c_37 : p0 = (8 : Int32)
    · exact lv_tableIn (tgt := 337) hx hb d_P_move_1 (by rw [c_37]; decide) (by rw [c_37]; decide) (by rw [c_37]; rfl) (by decide) hd_3
    by_cases c_38 : p0 = (11 : Int32)
    · exact lv_tableIn (tgt := 337) hx hb d_P_move_1 (by rw [c_38]; decide) (by rw [c_38]; decide) (by rw [c_38]; rfl) (by decide) hd_3
    by_cases c_39 : p0 = (12 : Int32)
    · exact lv_tableIn (tgt := 337) hx hb d_P_move_1 (by rw [c_39]; decide) (by rw [c_39]; decide) (by rw [c_39]; rfl) (by decide) hd_3
    by_cases c_40 : p0 = (14 : Int32)
    · exact lv_tableIn (tgt := 337) hx hb d_P_move_1 (by rw [c_40]; decide) (by rw [c_40]; decide) (by rw [c_40]; rfl) (by decide) hd_3
    exact lv_tableOut (tgt := 337) hx hb d_P_move_1 (by have := lv_neT c_4 (a := 0) (by decide); have := lv_neT c_7 (a := 1) (by decide); have := lv_neT c_10 (a := 2) (by decide); have := lv_neT c_13 (a := 3) (by decide); have := lv_neT c_15 (a := 4) (by decide); have := lv_neT c_18 (a := 5) (by decide); have := lv_neT c_21 (a := 6) (by decide); have := lv_neT c_24 (a := 7) (by decide); have := lv_neT c_37 (a := 8) (by decide); have := lv_neT c_26 (a := 9) (by decide); have := lv_neT c_29 (a := 10) (by decide); have := lv_neT c_38 (a := 11) (by decide); have := lv_neT c_39 (a := 12) (by decide); have := lv_neT c_32 (a := 13) (by decide); have := lv_neT c_40 (a := 14) (by decide); have := lv_neT c_34 (a := 15) (by decide); omega) (by decide) hd_3
  obtain ⟨u_1, rfl⟩ : ∃ z, z = v9 := ⟨_, rfl⟩
  obtain ⟨eu_1, hP, hD, hS, hl⟩ := hG
  exact zl_v (u := u_1) hx hb hr hlocks hS hP hD (by subst eu_1; simp only [f_move]) d_P_move_337
theorem d_P_access_0 : decode c_P_access 0 = .ok (.iload_n 1, 1) := by decide +kernel
theorem d_P_access_1 : decode c_P_access 1 = .ok (.invokestatic 140, 3) := by decide +kernel
theorem d_P_access_4 : decode c_P_access 4 = .ok (.istore_n 2, 1) := by decide +kernel
theorem d_P_access_5 : decode c_P_access 5 = .ok (.iload_n 2, 1) := by decide +kernel
theorem d_P_access_6 : decode c_P_access 6 = .ok (.getstatic 206, 3) := by decide +kernel
theorem d_P_access_9 : decode c_P_access 9 = .ok (.arraylength, 1) := by decide +kernel
theorem d_P_access_10 : decode c_P_access 10 = .ok (.if_icmp .ge 11, 3) := by decide +kernel
theorem d_P_access_13 : decode c_P_access 13 = .ok (.getstatic 206, 3) := by decide +kernel
theorem d_P_access_16 : decode c_P_access 16 = .ok (.iload_n 2, 1) := by decide +kernel
theorem d_P_access_17 : decode c_P_access 17 = .ok (.iaload, 1) := by decide +kernel
theorem d_P_access_18 : decode c_P_access 18 = .ok (.goto 4, 3) := by decide +kernel
theorem d_P_access_21 : decode c_P_access 21 = .ok (.iconst 0, 1) := by decide +kernel
theorem d_P_access_22 : decode c_P_access 22 = .ok (.istore_n 3, 1) := by decide +kernel
theorem d_P_access_23 : decode c_P_access 23 = .ok (.iload_n 1, 1) := by decide +kernel
theorem d_P_access_24 : decode c_P_access 24 = .ok (.invokestatic 197, 3) := by decide +kernel
theorem d_P_access_27 : decode c_P_access 27 = .ok (.istore 4, 2) := by decide +kernel
theorem d_P_access_29 : decode c_P_access 29 = .ok (.aload_n 0, 1) := by decide +kernel
theorem d_P_access_30 : decode c_P_access 30 = .ok (.getfield 18, 3) := by decide +kernel
theorem d_P_access_33 : decode c_P_access 33 = .ok (.aload_n 0, 1) := by decide +kernel
theorem d_P_access_34 : decode c_P_access 34 = .ok (.getfield 36, 3) := by decide +kernel
theorem d_P_access_37 : decode c_P_access 37 = .ok (.iload_n 1, 1) := by decide +kernel
theorem d_P_access_38 : decode c_P_access 38 = .ok (.invokestatic 143, 3) := by decide +kernel
theorem d_P_access_41 : decode c_P_access 41 = .ok (.invokevirtual 146, 3) := by decide +kernel
theorem d_P_access_44 : decode c_P_access 44 = .ok (.aload_n 0, 1) := by decide +kernel
theorem d_P_access_45 : decode c_P_access 45 = .ok (.iload_n 1, 1) := by decide +kernel
theorem d_P_access_46 : decode c_P_access 46 = .ok (.invokevirtual 149, 3) := by decide +kernel
theorem d_P_access_49 : decode c_P_access 49 = .ok (.iadd, 1) := by decide +kernel
theorem d_P_access_50 : decode c_P_access 50 = .ok (.istore 5, 2) := by decide +kernel
theorem d_P_access_52 : decode c_P_access 52 = .ok (.iload_n 3, 1) := by decide +kernel
theorem d_P_access_53 : decode c_P_access 53 = .ok (.ifCond .eq 17, 3) := by decide +kernel
theorem d_P_access_56 : decode c_P_access 56 = .ok (.iload_n 3, 1) := by decide +kernel
theorem d_P_access_57 : decode c_P_access 57 = .ok (.bipush 8, 2) := by decide +kernel
theorem d_P_access_59 : decode c_P_access 59 = .ok (.if_icmp .ne 13, 3) := by decide +kernel
theorem d_P_access_62 : decode c_P_access 62 = .ok (.iload 4, 2) := by decide +kernel
theorem d_P_access_64 : decode c_P_access 64 = .ok (.iconst 1, 1) := by decide +kernel
theorem d_P_access_65 : decode c_P_access 65 = .ok (.iand, 1) := by decide +kernel
theorem d_P_access_66 : decode c_P_access 66 = .ok (.iconst 1, 1) := by decide +kernel
theorem d_P_access_67 : decode c_P_access 67 = .ok (.if_icmp .ne 5, 3) := by decide +kernel
theorem d_P_access_70 : decode c_P_access 70 = .ok (.iconst 2, 1) := by decide +kernel
theorem d_P_access_71 : decode c_P_access 71 = .ok (.ireturn, 1) := by decide +kernel
theorem d_P_access_72 : decode c_P_access 72 = .ok (.iload 5, 2) := by decide +kernel
theorem d_P_access_74 : decode c_P_access 74 = .ok (.iload_n 3, 1) := by decide +kernel
theorem d_P_access_75 : decode c_P_access 75 = .ok (.iconst 1, 1) := by decide +kernel
theorem d_P_access_76 : decode c_P_access 76 = .ok (.isub, 1) := by decide +kernel
theorem d_P_access_77 : decode c_P_access 77 = .ok (.iand, 1) := by decide +kernel
theorem d_P_access_78 : decode c_P_access 78 = .ok (.ifCond .eq 6, 3) := by decide +kernel
theorem d_P_access_81 : decode c_P_access 81 = .ok (.bipush 7, 2) := by decide +kernel
theorem d_P_access_83 : decode c_P_access 83 = .ok (.ireturn, 1) := by decide +kernel
theorem d_P_access_84 : decode c_P_access 84 = .ok (.aload_n 0, 1) := by decide +kernel
theorem d_P_access_85 : decode c_P_access 85 = .ok (.getfield 9, 3) := by decide +kernel
theorem d_P_access_88 : decode c_P_access 88 = .ok (.iload 5, 2) := by decide +kernel
theorem d_P_access_90 : decode c_P_access 90 = .ok (.iload_n 3, 1) := by decide +kernel
theorem d_P_access_91 : decode c_P_access 91 = .ok (.invokevirtual 104, 3) := by decide +kernel
theorem d_P_access_94 : decode c_P_access 94 = .ok (.ifCond .ne 6, 3) := by decide +kernel
theorem d_P_access_97 : decode c_P_access 97 = .ok (.bipush 9, 2) := by decide +kernel
theorem d_P_access_99 : decode c_P_access 99 = .ok (.ireturn, 1) := by decide +kernel
theorem d_P_access_100 : decode c_P_access 100 = .ok (.aload_n 0, 1) := by decide +kernel
theorem d_P_access_101 : decode c_P_access 101 = .ok (.iload_n 2, 1) := by decide +kernel
theorem d_P_access_102 : decode c_P_access 102 = .ok (.iload 4, 2) := by decide +kernel
theorem d_P_access_104 : decode c_P_access 104 = .ok (.iload 5, 2) := by decide +kernel
theorem d_P_access_106 : decode c_P_access 106 = .ok (.invokevirtual 210, 3) := by decide +kernel
theorem d_P_access_109 : decode c_P_access 109 = .ok (.iconst (-1), 1) := by decide +kernel
theorem d_P_access_110 : decode c_P_access 110 = .ok (.ireturn, 1) := by decide +kernel
theorem kd_P_access : (y_P_access).cls = "WindowMachine$Processor" ∧ (y_P_access).cls ≠ "java/lang/invoke/MethodHandle" ∧ (y_P_access).cls ≠ "java/lang/invoke/VarHandle" ∧ (parseMethodDescriptor (y_P_access).desc).map (fun d => d.parameters.length) = some 1 := by decide +kernel
def f_access (st : SP) (p0 : Int32) : Int32 × SP := (let x_2 := (if (16 : Int32) ≤ (f_op3Of p0) then (0 : Int32) else octN (f_op3Of p0).toNatClampNeg); (let r_7 := f_rread st.2.2.1 (st.1 0) (f_rs1Of p0); (let x_9 := r_7 + (f_secondOperand st p0); (if x_2 = (0 : Int32) then ((2 : Int32), st) else (if x_2 = (8 : Int32) then (if ((f_rdOf p0) &&& (1 : Int32)) = (1 : Int32) then ((2 : Int32), st) else (if (x_9 &&& (x_2 - (1 : Int32))) = (0 : Int32) then (if (f_holds x_9 x_2) = (0 : Int32) then ((9 : Int32), st) else (let u_20 := f_move st (f_op3Of p0) (f_rdOf p0) x_9; ((-1 : Int32), u_20))) else ((7 : Int32), st))) else (if (x_9 &&& (x_2 - (1 : Int32))) = (0 : Int32) then (if (f_holds x_9 x_2) = (0 : Int32) then ((9 : Int32), st) else (let u_15 := f_move st (f_op3Of p0) (f_rdOf p0) x_9; ((-1 : Int32), u_15))) else ((7 : Int32), st)))))))
set_option maxHeartbeats 4000000 in
set_option maxRecDepth 100000 in
theorem mt_P_access (l : Launch) (D : va_G) (za zk zv : Nat → Nat) (h : Nat → Nat) (c : Nat → ClassId) (sz : Nat) (st : SP) (p0 : Int32) (hW : vp_in (st.1 0) 4) : Met l y_P_access w_P_access ({ frames := 4, cells := 0, slots := 0, locals := 95 }) (va_Pc [.ref (h 0), .int p0] (zw_pre D vwCl [(c 0, .int), (c 1, .int)] sz (wP h c st) (zz za zk zv (va_A (wP h c st) sz)))) (va_Qi (fun r (u : SP) => r = (f_access st p0).1 ∧ u = (f_access st p0).2) (fun u t => zw_at D vwCl (va_A (wP h c st) sz) ((fun (u : SP) => wP h c u) u) t) (va_A (wP h c st) sz)) 0 0 (va_A (wP h c st) sz) := by
  refine zm (Qf := fun A => va_Qi (fun r (u : SP) => r = (f_access st p0).1 ∧ u = (f_access st p0).2) (fun u t => zw_at D vwCl A ((fun (u : SP) => wP h c u) u) t) A) (Zf := fun A => zz za zk zv A) (cc := c_P_access) (nL := 6) (ret := (some .int)) (by decide) rfl (Nat.le_of_ble_eq_true rfl) ?_
  intro p e s m below meth c9 A H locs ls hx hb hml hown hts hr hlocks hA hK hP hD hS hZ hl
  have hl : lv_has ls 6 [(0, .ref (h 0)), (1, .int p0)] := hl
  have ht : ∀ w9 ∈ zT, w9.before _ s = true := fun w9 h9 => hts w9 (List.mem_cons_of_mem _ h9)
  refine lv_iload_n hx hb d_P_access_0 rfl (lv_at hl 1 rfl) ?_
  refine zc_i (w2 := fun _ => wP h c st) (va_runS (As := [.int p0]) (rest := []) ⟨hx, hb, hml, hown, ht⟩ (mt_P_op3Of l D H.size p0) (cwS 1 ht (zgS zw_568 zw_569 zw_4 zw_570) rfl rfl rfl kd_P_op3Of ⟨Nat.le_of_ble_eq_true rfl, Nat.le_of_ble_eq_true rfl⟩) ⟨zw_blind zw_tt, zw_go (hP.sub (ws' := []) [] rfl) (hD.sub (ws' := []) [] (by decide) rfl) (hK.sub (tys' := []) [] rfl) (fun _ _ _ => trivial)⟩ rfl rfl hl.1 rfl (lv_room (Nat.le_of_ble_eq_true rfl)) d_P_access_1 ⟨Nat.le_of_ble_eq_true rfl, Nat.le_of_ble_eq_true rfl⟩) hP hD hS hA [] [0, 1, 2, 3, 4, 5] [0, 1, 2, 3, 4, 5] rfl rfl (by decide) (by decide) (by decide) (fun _ => rfl) (fun r_1 _ H locs hw hP hD hS => ?_)
  subst hw
  refine lv_istore_n (lv' := [(2, .int (f_op3Of p0)), (0, .ref (h 0)), (1, .int p0)]) hx hb d_P_access_4 rfl hl (by decide) rfl (fun ls hl => ?_)
  refine lv_iload_n hx hb d_P_access_5 rfl (lv_at hl 0 rfl) ?_
  refine va_gets (C := "WindowMachine$Processor") (n := "OCTETS_MOVED") (d := "[I") (v := .ref (za 0)) hx hb (zz_octZ hZ) hS hown (ht _ zw_681) (fun _ h9 => h9) d_P_access_6 ?_
  refine va_tlen (v := (16 : Int32)) hx hb (zz_octT hZ) hS rfl d_P_access_9 ?_
  refine zcut (X := Int32) (G := fun v9 H locs ls => v9 = (if (16 : Int32) ≤ (f_op3Of p0) then (0 : Int32) else octN (f_op3Of p0).toNatClampNeg) ∧ va_P D vwCl (wP h c st) H ∧ va_D A (wP h c st) ∧ va_S A s.heap H locs ∧ lv_has ls 6 [(0, .ref (h 0)), (1, .int p0), (2, .int (f_op3Of p0))]) (fr := fun v9 ls => F0 m 22 ls [.int v9]) (fun J_3 => ?_) (fun v9 H locs ls hG => ?_)
  · refine lv_icmp_ge (tgt := 21) hx hb d_P_access_10 (by decide) (fun c_4 => ?_) (fun c_4 => ?_)
    · refine lv_iconst (v := (0 : Int32)) hx hb d_P_access_21 (by decide) ?_
      exact J_3 (0 : Int32) _ _ _ ⟨by simp only [if_pos c_4], hP, hD, hS, (lv_sub hl [1, 2, 0] rfl)⟩
    refine va_gets (C := "WindowMachine$Processor") (n := "OCTETS_MOVED") (d := "[I") (v := .ref (za 0)) hx hb (zz_octZ hZ) hS hown (ht _ zw_681) (fun _ h9 => h9) d_P_access_13 ?_
    refine lv_iload_n hx hb d_P_access_16 rfl (lv_at hl 0 rfl) ?_
    refine va_ti hx hb (zz_octT hZ) hS (oct_in p0 c_4) rfl d_P_access_17 ?_
    refine lv_goto (tgt := 22) hx hb d_P_access_18 (by decide) ?_
    exact J_3 (octN (f_op3Of p0).toNatClampNeg) _ _ _ ⟨by simp only [if_neg c_4], hP, hD, hS, (lv_sub hl [1, 2, 0] rfl)⟩
  obtain ⟨x_2, rfl⟩ : ∃ z, z = v9 := ⟨_, rfl⟩
  obtain ⟨ex_2, hP, hD, hS, hl⟩ := hG
  refine lv_istore_n (lv' := [(3, .int x_2), (0, .ref (h 0)), (1, .int p0), (2, .int (f_op3Of p0))]) hx hb d_P_access_22 rfl hl (by decide) rfl (fun ls hl => ?_)
  refine lv_iload_n hx hb d_P_access_23 rfl (lv_at hl 2 rfl) ?_
  refine zc_i (w2 := fun _ => wP h c st) (va_runS (As := [.int p0]) (rest := []) ⟨hx, hb, hml, hown, ht⟩ (mt_P_rdOf l D H.size p0) (cwS 1 ht (zgS zw_550 zw_551 zw_4 zw_552) rfl rfl rfl kd_P_rdOf ⟨Nat.le_of_ble_eq_true rfl, Nat.le_of_ble_eq_true rfl⟩) ⟨zw_blind zw_tt, zw_go (hP.sub (ws' := []) [] rfl) (hD.sub (ws' := []) [] (by decide) rfl) (hK.sub (tys' := []) [] rfl) (fun _ _ _ => trivial)⟩ rfl rfl hl.1 rfl (lv_room (Nat.le_of_ble_eq_true rfl)) d_P_access_24 ⟨Nat.le_of_ble_eq_true rfl, Nat.le_of_ble_eq_true rfl⟩) hP hD hS hA [] [0, 1, 2, 3, 4, 5] [0, 1, 2, 3, 4, 5] rfl rfl (by decide) (by decide) (by decide) (fun _ => rfl) (fun r_5 _ H locs hw hP hD hS => ?_)
  subst hw
  refine lv_istore (lv' := [(4, .int (f_rdOf p0)), (3, .int x_2), (0, .ref (h 0)), (1, .int p0), (2, .int (f_op3Of p0))]) hx hb d_P_access_27 hl (by decide) rfl (fun ls hl => ?_)
  refine lv_aload_n hx hb d_P_access_29 rfl (lv_at hl 2 rfl) ?_
  refine va_get (D := D) (ci := 2) (v := .ref (h 3)) (C := "WindowMachine$Processor") (T := T_P) (N := 18) hx hb ht zi_P hown hK hP 0 rfl rfl 1 (by decide) (ht _ zw_117) (fun _ h9 => h9) rfl d_P_access_30 ?_
  refine lv_aload_n hx hb d_P_access_33 rfl (lv_at hl 2 rfl) ?_
  refine va_get (D := D) (ci := 2) (v := .int (st.1 0)) (C := "WindowMachine$Processor") (T := T_P) (N := 18) hx hb ht zi_P hown hK hP 0 rfl rfl 3 (by decide) (ht _ zw_120) (fun _ h9 => h9) rfl d_P_access_34 ?_
  refine lv_iload_n hx hb d_P_access_37 rfl (lv_at hl 3 rfl) ?_
  refine zc_i (w2 := fun _ => wP h c st) (va_runS (As := [.int p0]) (rest := [.int (st.1 0), .ref (h 3)]) ⟨hx, hb, hml, hown, ht⟩ (mt_P_rs1Of l D H.size p0) (cwS 1 ht (zgS zw_571 zw_572 zw_4 zw_573) rfl rfl rfl kd_P_rs1Of ⟨Nat.le_of_ble_eq_true rfl, Nat.le_of_ble_eq_true rfl⟩) ⟨zw_blind zw_tt, zw_go (hP.sub (ws' := []) [] rfl) (hD.sub (ws' := []) [] (by decide) rfl) (hK.sub (tys' := []) [] rfl) (fun _ _ _ => trivial)⟩ rfl rfl hl.1 rfl (lv_room (Nat.le_of_ble_eq_true rfl)) d_P_access_38 ⟨Nat.le_of_ble_eq_true rfl, Nat.le_of_ble_eq_true rfl⟩) hP hD hS hA [] [0, 1, 2, 3, 4, 5] [0, 1, 2, 3, 4, 5] rfl rfl (by decide) (by decide) (by decide) (fun _ => rfl) (fun r_6 _ H locs hw hP hD hS => ?_)
  subst hw
  refine zc_i (w2 := fun _ => wP h c st) (va_runV (As := [.int (st.1 0), .int (f_rs1Of p0)]) (rest := []) ⟨hx, hb, hml, hown, ht⟩ (mt_R_read l D (h 3) (h 4) (c 1) H.size st.2.2.1 (st.1 0) (f_rs1Of p0) hW (rs1_in p0)) (cwV 2 ht (zgV zw_574 zw_575 zw_576 zw_5 zw_577) rfl rfl rfl kd_R_read ⟨Nat.le_of_ble_eq_true rfl, Nat.le_of_ble_eq_true rfl⟩) ⟨zw_blind zw_tt, va_recv (hK.sub (tys' := [((c 1), .int)]) [1] rfl) (hP.sub (ws' := wR (h 3) (h 4) (c 1) st.2.2.1) [3, 4] rfl) (ci := 4) (q0 := 0) rfl rfl, zw_go (hP.sub (ws' := wR (h 3) (h 4) (c 1) st.2.2.1) [3, 4] rfl) (hD.sub (ws' := wR (h 3) (h 4) (c 1) st.2.2.1) [3, 4] (by decide) rfl) (hK.sub (tys' := [((c 1), .int)]) [1] rfl) (fun _ _ _ => trivial)⟩ rfl rfl hl.1 rfl (lv_room (Nat.le_of_ble_eq_true rfl)) d_P_access_41 ⟨Nat.le_of_ble_eq_true rfl, Nat.le_of_ble_eq_true rfl⟩) hP hD hS hA [3, 4] [0, 1, 2, 5] [0, 1, 2, 4, 5, 3] rfl rfl (by decide) (by decide) (by decide) (fun _ => rfl) (fun r_7 _ H locs hw hP hD hS => ?_)
  have er_7 := hw
  refine lv_aload_n hx hb d_P_access_44 rfl (lv_at hl 2 rfl) ?_
  refine lv_iload_n hx hb d_P_access_45 rfl (lv_at hl 3 rfl) ?_
  refine zc_i (w2 := fun _ => wP h c st) (va_runV (As := [.int p0]) (rest := [.int r_7]) ⟨hx, hb, hml, hown, ht⟩ (mt_P_secondOperand l D h c H.size st p0 hW) (cwV 1 ht (zgV zw_578 zw_580 zs_29 zw_4 zw_581) rfl rfl rfl kd_P_secondOperand ⟨Nat.le_of_ble_eq_true rfl, Nat.le_of_ble_eq_true rfl⟩) ⟨zw_blind zw_tt, va_recv (hK.sub (tys' := [(c 0, .int), (c 1, .int)]) [0, 1] rfl) (hP.sub (ws' := wP h c st) [0, 1, 2, 3, 4, 5] rfl) (ci := 2) (q0 := 0) rfl rfl, zw_go (hP.sub (ws' := wP h c st) [0, 1, 2, 3, 4, 5] rfl) (hD.sub (ws' := wP h c st) [0, 1, 2, 3, 4, 5] (by decide) rfl) (hK.sub (tys' := [(c 0, .int), (c 1, .int)]) [0, 1] rfl) (fun _ _ _ => trivial)⟩ rfl rfl hl.1 rfl (lv_room (Nat.le_of_ble_eq_true rfl)) d_P_access_46 ⟨Nat.le_of_ble_eq_true rfl, Nat.le_of_ble_eq_true rfl⟩) hP hD hS hA [0, 1, 2, 3, 4, 5] [] [0, 1, 2, 3, 4, 5] rfl rfl (by decide) (by decide) (by decide) (fun _ => rfl) (fun r_8 _ H locs hw hP hD hS => ?_)
  subst hw
  refine lv_iadd hx hb d_P_access_49 ?_
  refine lv_topi (fun x_9 ex_9 => ?_)
  refine lv_istore (lv' := [(5, .int x_9), (4, .int (f_rdOf p0)), (3, .int x_2), (0, .ref (h 0)), (1, .int p0), (2, .int (f_op3Of p0))]) hx hb d_P_access_50 hl (by decide) rfl (fun ls hl => ?_)
  refine lv_iload_n hx hb d_P_access_52 rfl (lv_at hl 2 rfl) ?_
  refine lv_if_eq (tgt := 70) hx hb d_P_access_53 (by decide) (fun c_10 => ?_) (fun c_10 => ?_)
  · refine lv_iconst (v := (2 : Int32)) hx hb d_P_access_70 (by decide) ?_
    exact zl_i (u := st) hx hb hr hlocks hS hP hD (⟨by subst ex_2; subst er_7; subst ex_9; simp only [f_access, if_pos c_10], by subst ex_2; subst er_7; subst ex_9; simp only [f_access, if_pos c_10]⟩) d_P_access_71
  refine lv_iload_n hx hb d_P_access_56 rfl (lv_at hl 2 rfl) ?_
  refine lv_bipush (v := (8 : Int32)) hx hb d_P_access_57 (by decide) ?_
  refine lv_icmp_ne (tgt := 72) hx hb d_P_access_59 (by decide) (fun c_11 => ?_) (fun c_11 => ?_)
  · refine lv_iload hx hb d_P_access_72 (lv_at hl 0 rfl) ?_
    refine lv_iload_n hx hb d_P_access_74 rfl (lv_at hl 2 rfl) ?_
    refine lv_iconst (v := (1 : Int32)) hx hb d_P_access_75 (by decide) ?_
    refine lv_isub hx hb d_P_access_76 ?_
    refine lv_iand hx hb d_P_access_77 ?_
    refine lv_if_eq (tgt := 84) hx hb d_P_access_78 (by decide) (fun c_12 => ?_) (fun c_12 => ?_)
    · refine lv_aload_n hx hb d_P_access_84 rfl (lv_at hl 3 rfl) ?_
      refine va_get (D := D) (ci := 2) (v := .ref (h 1)) (C := "WindowMachine$Processor") (T := T_P) (N := 18) hx hb ht zi_P hown hK hP 0 rfl rfl 0 (by decide) (ht _ zw_116) (fun _ h9 => h9) rfl d_P_access_85 ?_
      refine lv_iload hx hb d_P_access_88 (lv_at hl 0 rfl) ?_
      refine lv_iload_n hx hb d_P_access_90 rfl (lv_at hl 2 rfl) ?_
      refine zc_i (w2 := fun _ => wP h c st) (va_runV (As := [.int x_9, .int x_2]) (rest := []) ⟨hx, hb, hml, hown, ht⟩ (mt_M_holds l D (h 1) (h 2) (c 0) H.size st.2.2.2 x_9 x_2) (cwV 2 ht (zgV zw_529 zw_460 zw_461 zw_2 zw_462) rfl rfl rfl kd_M_holds ⟨Nat.le_of_ble_eq_true rfl, Nat.le_of_ble_eq_true rfl⟩) ⟨zw_blind zw_tt, va_recv (hK.sub (tys' := [((c 0), .int)]) [0] rfl) (hP.sub (ws' := wM (h 1) (h 2) (c 0) st.2.2.2) [1, 2] rfl) (ci := 1) (q0 := 0) rfl rfl, zw_go (hP.sub (ws' := wM (h 1) (h 2) (c 0) st.2.2.2) [1, 2] rfl) (hD.sub (ws' := wM (h 1) (h 2) (c 0) st.2.2.2) [1, 2] (by decide) rfl) (hK.sub (tys' := [((c 0), .int)]) [0] rfl) (fun _ _ _ => trivial)⟩ rfl rfl hl.1 rfl (lv_room (Nat.le_of_ble_eq_true rfl)) d_P_access_91 ⟨Nat.le_of_ble_eq_true rfl, Nat.le_of_ble_eq_true rfl⟩) hP hD hS hA [1, 2] [0, 3, 4, 5] [0, 4, 5, 1, 2, 3] rfl rfl (by decide) (by decide) (by decide) (fun _ => rfl) (fun r_13 _ H locs hw hP hD hS => ?_)
      subst hw
      refine lv_if_ne (tgt := 100) hx hb d_P_access_94 (by decide) (fun c_14 => ?_) (fun c_14 => ?_)
      · refine lv_aload_n hx hb d_P_access_100 rfl (lv_at hl 3 rfl) ?_
        refine lv_iload_n hx hb d_P_access_101 rfl (lv_at hl 5 rfl) ?_
        refine lv_iload hx hb d_P_access_102 (lv_at hl 1 rfl) ?_
        refine lv_iload hx hb d_P_access_104 (lv_at hl 0 rfl) ?_
        refine zc_v (w2 := fun u9 => wP h c u9) (va_runV (As := [.int (f_op3Of p0), .int (f_rdOf p0), .int x_9]) (rest := []) ⟨hx, hb, hml, hown, ht⟩ (mt_P_move l D h c H.size st (f_op3Of p0) (f_rdOf p0) x_9 hW (rd_in p0) (mv_hn ex_2 c_11) (mv_ha ex_2 c_10 c_14) (mv_ha1 ex_2 c_14)) (cwV 3 ht (zgV zw_683 zw_685 zs_47 zw_4 zw_686) rfl rfl rfl kd_P_move ⟨Nat.le_of_ble_eq_true rfl, Nat.le_of_ble_eq_true rfl⟩) ⟨zw_blind zw_tt, va_recv (hK.sub (tys' := [(c 0, .int), (c 1, .int)]) [0, 1] rfl) (hP.sub (ws' := wP h c st) [0, 1, 2, 3, 4, 5] rfl) (ci := 2) (q0 := 0) rfl rfl, zw_go (hP.sub (ws' := wP h c st) [0, 1, 2, 3, 4, 5] rfl) (hD.sub (ws' := wP h c st) [0, 1, 2, 3, 4, 5] (by decide) rfl) (hK.sub (tys' := [(c 0, .int), (c 1, .int)]) [0, 1] rfl) (fun _ _ _ => trivial)⟩ rfl rfl hl.1 rfl (lv_room (Nat.le_of_ble_eq_true rfl)) d_P_access_106 ⟨Nat.le_of_ble_eq_true rfl, Nat.le_of_ble_eq_true rfl⟩) hP hD hS hA [0, 1, 2, 3, 4, 5] [] [0, 1, 2, 3, 4, 5] rfl rfl (by decide) (by decide) (by decide) (fun _ => rfl) (fun u_15 H locs hw hP hD hS => ?_)
        have eu_15 := hw
        refine lv_iconst (v := (-1 : Int32)) hx hb d_P_access_109 (by decide) ?_
        exact zl_i (u := u_15) hx hb hr hlocks hS hP hD (⟨by subst ex_2; subst er_7; subst ex_9; subst eu_15; simp only [f_access, if_neg c_10, if_neg c_11, if_pos c_12, if_neg c_14], by subst ex_2; subst er_7; subst ex_9; subst eu_15; simp only [f_access, if_neg c_10, if_neg c_11, if_pos c_12, if_neg c_14]⟩) d_P_access_110
      refine lv_bipush (v := (9 : Int32)) hx hb d_P_access_97 (by decide) ?_
      exact zl_i (u := st) hx hb hr hlocks hS hP hD (⟨by subst ex_2; subst er_7; subst ex_9; simp only [f_access, if_neg c_10, if_neg c_11, if_pos c_12, if_pos c_14], by subst ex_2; subst er_7; subst ex_9; simp only [f_access, if_neg c_10, if_neg c_11, if_pos c_12, if_pos c_14]⟩) d_P_access_99
    refine lv_bipush (v := (7 : Int32)) hx hb d_P_access_81 (by decide) ?_
    exact zl_i (u := st) hx hb hr hlocks hS hP hD (⟨by subst ex_2; subst er_7; subst ex_9; simp only [f_access, if_neg c_10, if_neg c_11, if_neg c_12], by subst ex_2; subst er_7; subst ex_9; simp only [f_access, if_neg c_10, if_neg c_11, if_neg c_12]⟩) d_P_access_83
  refine lv_iload hx hb d_P_access_62 (lv_at hl 1 rfl) ?_
  refine lv_iconst (v := (1 : Int32)) hx hb d_P_access_64 (by decide) ?_
  refine lv_iand hx hb d_P_access_65 ?_
  refine lv_iconst (v := (1 : Int32)) hx hb d_P_access_66 (by decide) ?_
  refine lv_icmp_ne (tgt := 72) hx hb d_P_access_67 (by decide) (fun c_16 => ?_) (fun c_16 => ?_)
  · refine lv_iload hx hb d_P_access_72 (lv_at hl 0 rfl) ?_
    refine lv_iload_n hx hb d_P_access_74 rfl (lv_at hl 2 rfl) ?_
    refine lv_iconst (v := (1 : Int32)) hx hb d_P_access_75 (by decide) ?_
    refine lv_isub hx hb d_P_access_76 ?_
    refine lv_iand hx hb d_P_access_77 ?_
    refine lv_if_eq (tgt := 84) hx hb d_P_access_78 (by decide) (fun c_17 => ?_) (fun c_17 => ?_)
    · refine lv_aload_n hx hb d_P_access_84 rfl (lv_at hl 3 rfl) ?_
      refine va_get (D := D) (ci := 2) (v := .ref (h 1)) (C := "WindowMachine$Processor") (T := T_P) (N := 18) hx hb ht zi_P hown hK hP 0 rfl rfl 0 (by decide) (ht _ zw_116) (fun _ h9 => h9) rfl d_P_access_85 ?_
      refine lv_iload hx hb d_P_access_88 (lv_at hl 0 rfl) ?_
      refine lv_iload_n hx hb d_P_access_90 rfl (lv_at hl 2 rfl) ?_
      refine zc_i (w2 := fun _ => wP h c st) (va_runV (As := [.int x_9, .int x_2]) (rest := []) ⟨hx, hb, hml, hown, ht⟩ (mt_M_holds l D (h 1) (h 2) (c 0) H.size st.2.2.2 x_9 x_2) (cwV 2 ht (zgV zw_529 zw_460 zw_461 zw_2 zw_462) rfl rfl rfl kd_M_holds ⟨Nat.le_of_ble_eq_true rfl, Nat.le_of_ble_eq_true rfl⟩) ⟨zw_blind zw_tt, va_recv (hK.sub (tys' := [((c 0), .int)]) [0] rfl) (hP.sub (ws' := wM (h 1) (h 2) (c 0) st.2.2.2) [1, 2] rfl) (ci := 1) (q0 := 0) rfl rfl, zw_go (hP.sub (ws' := wM (h 1) (h 2) (c 0) st.2.2.2) [1, 2] rfl) (hD.sub (ws' := wM (h 1) (h 2) (c 0) st.2.2.2) [1, 2] (by decide) rfl) (hK.sub (tys' := [((c 0), .int)]) [0] rfl) (fun _ _ _ => trivial)⟩ rfl rfl hl.1 rfl (lv_room (Nat.le_of_ble_eq_true rfl)) d_P_access_91 ⟨Nat.le_of_ble_eq_true rfl, Nat.le_of_ble_eq_true rfl⟩) hP hD hS hA [1, 2] [0, 3, 4, 5] [0, 4, 5, 1, 2, 3] rfl rfl (by decide) (by decide) (by decide) (fun _ => rfl) (fun r_18 _ H locs hw hP hD hS => ?_)
      subst hw
      refine lv_if_ne (tgt := 100) hx hb d_P_access_94 (by decide) (fun c_19 => ?_) (fun c_19 => ?_)
      · refine lv_aload_n hx hb d_P_access_100 rfl (lv_at hl 3 rfl) ?_
        refine lv_iload_n hx hb d_P_access_101 rfl (lv_at hl 5 rfl) ?_
        refine lv_iload hx hb d_P_access_102 (lv_at hl 1 rfl) ?_
        refine lv_iload hx hb d_P_access_104 (lv_at hl 0 rfl) ?_
        refine zc_v (w2 := fun u9 => wP h c u9) (va_runV (As := [.int (f_op3Of p0), .int (f_rdOf p0), .int x_9]) (rest := []) ⟨hx, hb, hml, hown, ht⟩ (mt_P_move l D h c H.size st (f_op3Of p0) (f_rdOf p0) x_9 hW (rd_in p0) (fun _ => mv_hn2 c_16) (mv_ha ex_2 c_10 c_19) (mv_ha1 ex_2 c_19)) (cwV 3 ht (zgV zw_683 zw_685 zs_47 zw_4 zw_686) rfl rfl rfl kd_P_move ⟨Nat.le_of_ble_eq_true rfl, Nat.le_of_ble_eq_true rfl⟩) ⟨zw_blind zw_tt, va_recv (hK.sub (tys' := [(c 0, .int), (c 1, .int)]) [0, 1] rfl) (hP.sub (ws' := wP h c st) [0, 1, 2, 3, 4, 5] rfl) (ci := 2) (q0 := 0) rfl rfl, zw_go (hP.sub (ws' := wP h c st) [0, 1, 2, 3, 4, 5] rfl) (hD.sub (ws' := wP h c st) [0, 1, 2, 3, 4, 5] (by decide) rfl) (hK.sub (tys' := [(c 0, .int), (c 1, .int)]) [0, 1] rfl) (fun _ _ _ => trivial)⟩ rfl rfl hl.1 rfl (lv_room (Nat.le_of_ble_eq_true rfl)) d_P_access_106 ⟨Nat.le_of_ble_eq_true rfl, Nat.le_of_ble_eq_true rfl⟩) hP hD hS hA [0, 1, 2, 3, 4, 5] [] [0, 1, 2, 3, 4, 5] rfl rfl (by decide) (by decide) (by decide) (fun _ => rfl) (fun u_20 H locs hw hP hD hS => ?_)
        have eu_20 := hw
        refine lv_iconst (v := (-1 : Int32)) hx hb d_P_access_109 (by decide) ?_
        exact zl_i (u := u_20) hx hb hr hlocks hS hP hD (⟨by subst ex_2; subst er_7; subst ex_9; subst eu_20; simp only [f_access, if_neg c_10, if_pos c_11, if_neg c_16, if_pos c_17, if_neg c_19], by subst ex_2; subst er_7; subst ex_9; subst eu_20; simp only [f_access, if_neg c_10, if_pos c_11, if_neg c_16, if_pos c_17, if_neg c_19]⟩) d_P_access_110
      refine lv_bipush (v := (9 : Int32)) hx hb d_P_access_97 (by decide) ?_
      exact zl_i (u := st) hx hb hr hlocks hS hP hD (⟨by subst ex_2; subst er_7; subst ex_9; simp only [f_access, if_neg c_10, if_pos c_11, if_neg c_16, if_pos c_17, if_pos c_19], by subst ex_2; subst er_7; subst ex_9; simp only [f_access, if_neg c_10, if_pos c_11, if_neg c_16, if_pos c_17, if_pos c_19]⟩) d_P_access_99
    refine lv_bipush (v := (7 : Int32)) hx hb d_P_access_81 (by decide) ?_
    exact zl_i (u := st) hx hb hr hlocks hS hP hD (⟨by subst ex_2; subst er_7; subst ex_9; simp only [f_access, if_neg c_10, if_pos c_11, if_neg c_16, if_neg c_17], by subst ex_2; subst er_7; subst ex_9; simp only [f_access, if_neg c_10, if_pos c_11, if_neg c_16, if_neg c_17]⟩) d_P_access_83
  refine lv_iconst (v := (2 : Int32)) hx hb d_P_access_70 (by decide) ?_
  exact zl_i (u := st) hx hb hr hlocks hS hP hD (⟨by subst ex_2; subst er_7; subst ex_9; simp only [f_access, if_neg c_10, if_pos c_11, if_pos c_16], by subst ex_2; subst er_7; subst ex_9; simp only [f_access, if_neg c_10, if_pos c_11, if_pos c_16]⟩) d_P_access_71
theorem d_P_perform_0 : decode c_P_perform 0 = .ok (.aload_n 0, 1) := by decide +kernel
theorem d_P_perform_1 : decode c_P_perform 1 = .ok (.getfield 44, 3) := by decide +kernel
theorem d_P_perform_4 : decode c_P_perform 4 = .ok (.iconst 3, 1) := by decide +kernel
theorem d_P_perform_5 : decode c_P_perform 5 = .ok (.iand, 1) := by decide +kernel
theorem d_P_perform_6 : decode c_P_perform 6 = .ok (.ifCond .eq 6, 3) := by decide +kernel
theorem d_P_perform_9 : decode c_P_perform 9 = .ok (.bipush 7, 2) := by decide +kernel
theorem d_P_perform_11 : decode c_P_perform 11 = .ok (.ireturn, 1) := by decide +kernel
theorem d_P_perform_12 : decode c_P_perform 12 = .ok (.aload_n 0, 1) := by decide +kernel
theorem d_P_perform_13 : decode c_P_perform 13 = .ok (.getfield 9, 3) := by decide +kernel
theorem d_P_perform_16 : decode c_P_perform 16 = .ok (.aload_n 0, 1) := by decide +kernel
theorem d_P_perform_17 : decode c_P_perform 17 = .ok (.getfield 44, 3) := by decide +kernel
theorem d_P_perform_20 : decode c_P_perform 20 = .ok (.iconst 4, 1) := by decide +kernel
theorem d_P_perform_21 : decode c_P_perform 21 = .ok (.invokevirtual 104, 3) := by decide +kernel
theorem d_P_perform_24 : decode c_P_perform 24 = .ok (.ifCond .ne 5, 3) := by decide +kernel
theorem d_P_perform_27 : decode c_P_perform 27 = .ok (.iconst 1, 1) := by decide +kernel
theorem d_P_perform_28 : decode c_P_perform 28 = .ok (.ireturn, 1) := by decide +kernel
theorem d_P_perform_29 : decode c_P_perform 29 = .ok (.aload_n 0, 1) := by decide +kernel
theorem d_P_perform_30 : decode c_P_perform 30 = .ok (.getfield 9, 3) := by decide +kernel
theorem d_P_perform_33 : decode c_P_perform 33 = .ok (.aload_n 0, 1) := by decide +kernel
theorem d_P_perform_34 : decode c_P_perform 34 = .ok (.getfield 44, 3) := by decide +kernel
theorem d_P_perform_37 : decode c_P_perform 37 = .ok (.iconst 4, 1) := by decide +kernel
theorem d_P_perform_38 : decode c_P_perform 38 = .ok (.invokevirtual 110, 3) := by decide +kernel
theorem d_P_perform_41 : decode c_P_perform 41 = .ok (.istore_n 1, 1) := by decide +kernel
theorem d_P_perform_42 : decode c_P_perform 42 = .ok (.iload_n 1, 1) := by decide +kernel
theorem d_P_perform_43 : decode c_P_perform 43 = .ok (.bipush 30, 2) := by decide +kernel
theorem d_P_perform_45 : decode c_P_perform 45 = .ok (.iushr, 1) := by decide +kernel
theorem d_P_perform_46 : decode c_P_perform 46 = .ok (.tableswitch 44 0 2 #[26, 32, 38], 26) := by decide +kernel
theorem d_P_perform_72 : decode c_P_perform 72 = .ok (.aload_n 0, 1) := by decide +kernel
theorem d_P_perform_73 : decode c_P_perform 73 = .ok (.iload_n 1, 1) := by decide +kernel
theorem d_P_perform_74 : decode c_P_perform 74 = .ok (.invokevirtual 114, 3) := by decide +kernel
theorem d_P_perform_77 : decode c_P_perform 77 = .ok (.ireturn, 1) := by decide +kernel
theorem d_P_perform_78 : decode c_P_perform 78 = .ok (.aload_n 0, 1) := by decide +kernel
theorem d_P_perform_79 : decode c_P_perform 79 = .ok (.iload_n 1, 1) := by decide +kernel
theorem d_P_perform_80 : decode c_P_perform 80 = .ok (.invokevirtual 118, 3) := by decide +kernel
theorem d_P_perform_83 : decode c_P_perform 83 = .ok (.ireturn, 1) := by decide +kernel
theorem d_P_perform_84 : decode c_P_perform 84 = .ok (.aload_n 0, 1) := by decide +kernel
theorem d_P_perform_85 : decode c_P_perform 85 = .ok (.iload_n 1, 1) := by decide +kernel
theorem d_P_perform_86 : decode c_P_perform 86 = .ok (.invokevirtual 121, 3) := by decide +kernel
theorem d_P_perform_89 : decode c_P_perform 89 = .ok (.ireturn, 1) := by decide +kernel
theorem d_P_perform_90 : decode c_P_perform 90 = .ok (.aload_n 0, 1) := by decide +kernel
theorem d_P_perform_91 : decode c_P_perform 91 = .ok (.iload_n 1, 1) := by decide +kernel
theorem d_P_perform_92 : decode c_P_perform 92 = .ok (.invokevirtual 124, 3) := by decide +kernel
theorem d_P_perform_95 : decode c_P_perform 95 = .ok (.ireturn, 1) := by decide +kernel
theorem kd_P_perform : (y_P_perform).cls = "WindowMachine$Processor" ∧ (y_P_perform).cls ≠ "java/lang/invoke/MethodHandle" ∧ (y_P_perform).cls ≠ "java/lang/invoke/VarHandle" ∧ (parseMethodDescriptor (y_P_perform).desc).map (fun d => d.parameters.length) = some 0 := by decide +kernel
def f_perform (st : SP) : Int32 × SP := (if ((st.1 8) &&& (3 : Int32)) = (0 : Int32) then (let r_2 := f_holds (st.1 8) (4 : Int32); (if r_2 = (0 : Int32) then ((1 : Int32), st) else (let r_4 := f_load st.2.2.2 (st.1 8) (4 : Int32); (if (zushr r_4 (30 : Int32)) = (0 : Int32) then (let r_7 := (f_sethiOrBranch st r_4).1; (let u_7 := (f_sethiOrBranch st r_4).2; (r_7, u_7))) else (if (zushr r_4 (30 : Int32)) = (1 : Int32) then (let r_9 := (f_call st r_4).1; (let u_9 := (f_call st r_4).2; (r_9, u_9))) else (if (zushr r_4 (30 : Int32)) = (2 : Int32) then (let r_11 := (f_operate st r_4).1; (let u_11 := (f_operate st r_4).2; (r_11, u_11))) else (let r_12 := (f_access st r_4).1; (let u_12 := (f_access st r_4).2; (r_12, u_12))))))))) else ((7 : Int32), st))
set_option maxHeartbeats 4000000 in
set_option maxRecDepth 100000 in
theorem mt_P_perform (l : Launch) (D : va_G) (za zk zv : Nat → Nat) (h : Nat → Nat) (c : Nat → ClassId) (sz : Nat) (st : SP) (hW : vp_in (st.1 0) 4) : Met l y_P_perform w_P_perform ({ frames := 5, cells := 0, slots := 0, locals := 123 }) (va_Pc [.ref (h 0)] (zw_pre D vwCl [(c 0, .int), (c 1, .int)] sz (wP h c st) (zz za zk zv (va_A (wP h c st) sz)))) (va_Qi (fun r (u : SP) => r = (f_perform st).1 ∧ u = (f_perform st).2) (fun u t => zw_at D vwCl (va_A (wP h c st) sz) ((fun (u : SP) => wP h c u) u) t) (va_A (wP h c st) sz)) 0 0 (va_A (wP h c st) sz) := by
  refine zm (Qf := fun A => va_Qi (fun r (u : SP) => r = (f_perform st).1 ∧ u = (f_perform st).2) (fun u t => zw_at D vwCl A ((fun (u : SP) => wP h c u) u) t) A) (Zf := fun A => zz za zk zv A) (cc := c_P_perform) (nL := 2) (ret := (some .int)) (by decide) rfl (Nat.le_of_ble_eq_true rfl) ?_
  intro p e s m below meth c9 A H locs ls hx hb hml hown hts hr hlocks hA hK hP hD hS hZ hl
  have hl : lv_has ls 2 [(0, .ref (h 0))] := hl
  have ht : ∀ w9 ∈ zT, w9.before _ s = true := fun w9 h9 => hts w9 (List.mem_cons_of_mem _ h9)
  refine lv_aload_n hx hb d_P_perform_0 rfl (lv_at hl 0 rfl) ?_
  refine va_get (D := D) (ci := 2) (v := .int (st.1 8)) (C := "WindowMachine$Processor") (T := T_P) (N := 18) hx hb ht zi_P hown hK hP 0 rfl rfl 11 (by decide) (ht _ zw_129) (fun _ h9 => h9) rfl d_P_perform_1 ?_
  refine lv_iconst (v := (3 : Int32)) hx hb d_P_perform_4 (by decide) ?_
  refine lv_iand hx hb d_P_perform_5 ?_
  refine lv_if_eq (tgt := 12) hx hb d_P_perform_6 (by decide) (fun c_1 => ?_) (fun c_1 => ?_)
  · refine lv_aload_n hx hb d_P_perform_12 rfl (lv_at hl 0 rfl) ?_
    refine va_get (D := D) (ci := 2) (v := .ref (h 1)) (C := "WindowMachine$Processor") (T := T_P) (N := 18) hx hb ht zi_P hown hK hP 0 rfl rfl 0 (by decide) (ht _ zw_116) (fun _ h9 => h9) rfl d_P_perform_13 ?_
    refine lv_aload_n hx hb d_P_perform_16 rfl (lv_at hl 0 rfl) ?_
    refine va_get (D := D) (ci := 2) (v := .int (st.1 8)) (C := "WindowMachine$Processor") (T := T_P) (N := 18) hx hb ht zi_P hown hK hP 0 rfl rfl 11 (by decide) (ht _ zw_129) (fun _ h9 => h9) rfl d_P_perform_17 ?_
    refine lv_iconst (v := (4 : Int32)) hx hb d_P_perform_20 (by decide) ?_
    refine zc_i (w2 := fun _ => wP h c st) (va_runV (As := [.int (st.1 8), .int (4 : Int32)]) (rest := []) ⟨hx, hb, hml, hown, ht⟩ (mt_M_holds l D (h 1) (h 2) (c 0) H.size st.2.2.2 (st.1 8) (4 : Int32)) (cwV 2 ht (zgV zw_529 zw_460 zw_461 zw_2 zw_462) rfl rfl rfl kd_M_holds ⟨Nat.le_of_ble_eq_true rfl, Nat.le_of_ble_eq_true rfl⟩) ⟨zw_blind zw_tt, va_recv (hK.sub (tys' := [((c 0), .int)]) [0] rfl) (hP.sub (ws' := wM (h 1) (h 2) (c 0) st.2.2.2) [1, 2] rfl) (ci := 1) (q0 := 0) rfl rfl, zw_go (hP.sub (ws' := wM (h 1) (h 2) (c 0) st.2.2.2) [1, 2] rfl) (hD.sub (ws' := wM (h 1) (h 2) (c 0) st.2.2.2) [1, 2] (by decide) rfl) (hK.sub (tys' := [((c 0), .int)]) [0] rfl) (fun _ _ _ => trivial)⟩ rfl rfl hl.1 rfl (lv_room (Nat.le_of_ble_eq_true rfl)) d_P_perform_21 ⟨Nat.le_of_ble_eq_true rfl, Nat.le_of_ble_eq_true rfl⟩) hP hD hS hA [1, 2] [0, 3, 4, 5] [0, 4, 5, 1, 2, 3] rfl rfl (by decide) (by decide) (by decide) (fun _ => rfl) (fun r_2 _ H locs hw hP hD hS => ?_)
    have er_2 := hw
    refine lv_if_ne (tgt := 29) hx hb d_P_perform_24 (by decide) (fun c_3 => ?_) (fun c_3 => ?_)
    · refine lv_aload_n hx hb d_P_perform_29 rfl (lv_at hl 0 rfl) ?_
      refine va_get (D := D) (ci := 2) (v := .ref (h 1)) (C := "WindowMachine$Processor") (T := T_P) (N := 18) hx hb ht zi_P hown hK hP 0 rfl rfl 0 (by decide) (ht _ zw_116) (fun _ h9 => h9) rfl d_P_perform_30 ?_
      refine lv_aload_n hx hb d_P_perform_33 rfl (lv_at hl 0 rfl) ?_
      refine va_get (D := D) (ci := 2) (v := .int (st.1 8)) (C := "WindowMachine$Processor") (T := T_P) (N := 18) hx hb ht zi_P hown hK hP 0 rfl rfl 11 (by decide) (ht _ zw_129) (fun _ h9 => h9) rfl d_P_perform_34 ?_
      refine lv_iconst (v := (4 : Int32)) hx hb d_P_perform_37 (by decide) ?_
      refine zc_i (w2 := fun _ => wP h c st) (va_runV (As := [.int (st.1 8), .int (4 : Int32)]) (rest := []) ⟨hx, hb, hml, hown, ht⟩ (mt_M_load l D (h 1) (h 2) (c 0) H.size st.2.2.2 (st.1 8) (4 : Int32) (ld_in (by rw [← er_2]; exact c_3))) (cwV 2 ht (zgV zw_530 zw_482 zw_483 zw_2 zw_484) rfl rfl rfl kd_M_load ⟨Nat.le_of_ble_eq_true rfl, Nat.le_of_ble_eq_true rfl⟩) ⟨zw_blind zw_tt, va_recv (hK.sub (tys' := [((c 0), .int)]) [0] rfl) (hP.sub (ws' := wM (h 1) (h 2) (c 0) st.2.2.2) [1, 2] rfl) (ci := 1) (q0 := 0) rfl rfl, zw_go (hP.sub (ws' := wM (h 1) (h 2) (c 0) st.2.2.2) [1, 2] rfl) (hD.sub (ws' := wM (h 1) (h 2) (c 0) st.2.2.2) [1, 2] (by decide) rfl) (hK.sub (tys' := [((c 0), .int)]) [0] rfl) (fun _ _ _ => trivial)⟩ rfl rfl hl.1 rfl (lv_room (Nat.le_of_ble_eq_true rfl)) d_P_perform_38 ⟨Nat.le_of_ble_eq_true rfl, Nat.le_of_ble_eq_true rfl⟩) hP hD hS hA [1, 2] [0, 3, 4, 5] [0, 4, 5, 1, 2, 3] rfl rfl (by decide) (by decide) (by decide) (fun _ => rfl) (fun r_4 _ H locs hw hP hD hS => ?_)
      have er_4 := hw
      refine lv_istore_n (lv' := [(1, .int r_4), (0, .ref (h 0))]) hx hb d_P_perform_41 rfl hl (by decide) rfl (fun ls hl => ?_)
      refine lv_iload_n hx hb d_P_perform_42 rfl (lv_at hl 0 rfl) ?_
      refine lv_bipush (v := (30 : Int32)) hx hb d_P_perform_43 (by decide) ?_
      refine lv_iushr (v := zushr r_4 (30 : Int32)) hx hb d_P_perform_45 rfl ?_
      by_cases c_6 : (zushr r_4 (30 : Int32)) = (0 : Int32)
      · refine lv_tableIn (tgt := 72) hx hb d_P_perform_46 (by rw [c_6]; decide) (by rw [c_6]; decide) (by rw [c_6]; rfl) (by decide) ?_
        refine lv_aload_n hx hb d_P_perform_72 rfl (lv_at hl 1 rfl) ?_
        refine lv_iload_n hx hb d_P_perform_73 rfl (lv_at hl 0 rfl) ?_
        refine zc_i (w2 := fun u9 => wP h c u9) (va_runV (As := [.int r_4]) (rest := []) ⟨hx, hb, hml, hown, ht⟩ (mt_P_sethiOrBranch l D h c H.size st r_4 hW) (cwV 1 ht (zgV zw_531 zw_533 zs_23 zw_4 zw_534) rfl rfl rfl kd_P_sethiOrBranch ⟨Nat.le_of_ble_eq_true rfl, Nat.le_of_ble_eq_true rfl⟩) ⟨zw_blind zw_tt, va_recv (hK.sub (tys' := [(c 0, .int), (c 1, .int)]) [0, 1] rfl) (hP.sub (ws' := wP h c st) [0, 1, 2, 3, 4, 5] rfl) (ci := 2) (q0 := 0) rfl rfl, zw_go (hP.sub (ws' := wP h c st) [0, 1, 2, 3, 4, 5] rfl) (hD.sub (ws' := wP h c st) [0, 1, 2, 3, 4, 5] (by decide) rfl) (hK.sub (tys' := [(c 0, .int), (c 1, .int)]) [0, 1] rfl) (fun _ _ _ => trivial)⟩ rfl rfl hl.1 rfl (lv_room (Nat.le_of_ble_eq_true rfl)) d_P_perform_74 ⟨Nat.le_of_ble_eq_true rfl, Nat.le_of_ble_eq_true rfl⟩) hP hD hS hA [0, 1, 2, 3, 4, 5] [] [0, 1, 2, 3, 4, 5] rfl rfl (by decide) (by decide) (by decide) (fun _ => rfl) (fun r_7 u_7 H locs hw hP hD hS => ?_)
        obtain ⟨er_7, eu_7⟩ := hw
        exact zl_i (u := u_7) hx hb hr hlocks hS hP hD (⟨by subst er_2; subst er_4; subst er_7; subst eu_7; simp only [f_perform, if_pos c_1, if_neg c_3, if_pos c_6], by subst er_2; subst er_4; subst er_7; subst eu_7; simp only [f_perform, if_pos c_1, if_neg c_3, if_pos c_6]⟩) d_P_perform_77
      by_cases c_8 : (zushr r_4 (30 : Int32)) = (1 : Int32)
      · refine lv_tableIn (tgt := 78) hx hb d_P_perform_46 (by rw [c_8]; decide) (by rw [c_8]; decide) (by rw [c_8]; rfl) (by decide) ?_
        refine lv_aload_n hx hb d_P_perform_78 rfl (lv_at hl 1 rfl) ?_
        refine lv_iload_n hx hb d_P_perform_79 rfl (lv_at hl 0 rfl) ?_
        refine zc_i (w2 := fun u9 => wP h c u9) (va_runV (As := [.int r_4]) (rest := []) ⟨hx, hb, hml, hown, ht⟩ (mt_P_call l D h c H.size st r_4 hW) (cwV 1 ht (zgV zw_560 zw_562 zs_27 zw_4 zw_563) rfl rfl rfl kd_P_call ⟨Nat.le_of_ble_eq_true rfl, Nat.le_of_ble_eq_true rfl⟩) ⟨zw_blind zw_tt, va_recv (hK.sub (tys' := [(c 0, .int), (c 1, .int)]) [0, 1] rfl) (hP.sub (ws' := wP h c st) [0, 1, 2, 3, 4, 5] rfl) (ci := 2) (q0 := 0) rfl rfl, zw_go (hP.sub (ws' := wP h c st) [0, 1, 2, 3, 4, 5] rfl) (hD.sub (ws' := wP h c st) [0, 1, 2, 3, 4, 5] (by decide) rfl) (hK.sub (tys' := [(c 0, .int), (c 1, .int)]) [0, 1] rfl) (fun _ _ _ => trivial)⟩ rfl rfl hl.1 rfl (lv_room (Nat.le_of_ble_eq_true rfl)) d_P_perform_80 ⟨Nat.le_of_ble_eq_true rfl, Nat.le_of_ble_eq_true rfl⟩) hP hD hS hA [0, 1, 2, 3, 4, 5] [] [0, 1, 2, 3, 4, 5] rfl rfl (by decide) (by decide) (by decide) (fun _ => rfl) (fun r_9 u_9 H locs hw hP hD hS => ?_)
        obtain ⟨er_9, eu_9⟩ := hw
        exact zl_i (u := u_9) hx hb hr hlocks hS hP hD (⟨by subst er_2; subst er_4; subst er_9; subst eu_9; simp only [f_perform, if_pos c_1, if_neg c_3, if_neg c_6, if_pos c_8], by subst er_2; subst er_4; subst er_9; subst eu_9; simp only [f_perform, if_pos c_1, if_neg c_3, if_neg c_6, if_pos c_8]⟩) d_P_perform_83
      by_cases c_10 : (zushr r_4 (30 : Int32)) = (2 : Int32)
      · refine lv_tableIn (tgt := 84) hx hb d_P_perform_46 (by rw [c_10]; decide) (by rw [c_10]; decide) (by rw [c_10]; rfl) (by decide) ?_
        refine lv_aload_n hx hb d_P_perform_84 rfl (lv_at hl 1 rfl) ?_
        refine lv_iload_n hx hb d_P_perform_85 rfl (lv_at hl 0 rfl) ?_
        refine zc_i (w2 := fun u9 => wP h c u9) (va_runV (As := [.int r_4]) (rest := []) ⟨hx, hb, hml, hown, ht⟩ (mt_P_operate l D za zk zv h c H.size st r_4 hW) (cwV 1 ht (zgV zw_564 zw_566 zs_28 zw_4 zw_567) rfl rfl rfl kd_P_operate ⟨Nat.le_of_ble_eq_true rfl, Nat.le_of_ble_eq_true rfl⟩) ⟨zw_blind zz_bl, va_recv (hK.sub (tys' := [(c 0, .int), (c 1, .int)]) [0, 1] rfl) (hP.sub (ws' := wP h c st) [0, 1, 2, 3, 4, 5] rfl) (ci := 2) (q0 := 0) rfl rfl, zw_go (hP.sub (ws' := wP h c st) [0, 1, 2, 3, 4, 5] rfl) (hD.sub (ws' := wP h c st) [0, 1, 2, 3, 4, 5] (by decide) rfl) (hK.sub (tys' := [(c 0, .int), (c 1, .int)]) [0, 1] rfl) (fun U hU hW => zz_go hZ hS (va_free (wc := wP h c st) hD hS hA [0, 1, 2, 3, 4, 5] rfl) hU hW)⟩ rfl rfl hl.1 rfl (lv_room (Nat.le_of_ble_eq_true rfl)) d_P_perform_86 ⟨Nat.le_of_ble_eq_true rfl, Nat.le_of_ble_eq_true rfl⟩) hP hD hS hA [0, 1, 2, 3, 4, 5] [] [0, 1, 2, 3, 4, 5] rfl rfl (by decide) (by decide) (by decide) (fun _ => rfl) (fun r_11 u_11 H locs hw hP hD hS => ?_)
        obtain ⟨er_11, eu_11⟩ := hw
        exact zl_i (u := u_11) hx hb hr hlocks hS hP hD (⟨by subst er_2; subst er_4; subst er_11; subst eu_11; simp only [f_perform, if_pos c_1, if_neg c_3, if_neg c_6, if_neg c_8, if_pos c_10], by subst er_2; subst er_4; subst er_11; subst eu_11; simp only [f_perform, if_pos c_1, if_neg c_3, if_neg c_6, if_neg c_8, if_pos c_10]⟩) d_P_perform_89
      refine lv_tableOut (tgt := 90) hx hb d_P_perform_46 (by have := lv_neT c_6 (a := 0) (by decide); have := lv_neT c_8 (a := 1) (by decide); have := lv_neT c_10 (a := 2) (by decide); omega) (by decide) ?_
      refine lv_aload_n hx hb d_P_perform_90 rfl (lv_at hl 1 rfl) ?_
      refine lv_iload_n hx hb d_P_perform_91 rfl (lv_at hl 0 rfl) ?_
      refine zc_i (w2 := fun u9 => wP h c u9) (va_runV (As := [.int r_4]) (rest := []) ⟨hx, hb, hml, hown, ht⟩ (mt_P_access l D za zk zv h c H.size st r_4 hW) (cwV 1 ht (zgV zw_677 zw_679 zs_46 zw_4 zw_680) rfl rfl rfl kd_P_access ⟨Nat.le_of_ble_eq_true rfl, Nat.le_of_ble_eq_true rfl⟩) ⟨zw_blind zz_bl, va_recv (hK.sub (tys' := [(c 0, .int), (c 1, .int)]) [0, 1] rfl) (hP.sub (ws' := wP h c st) [0, 1, 2, 3, 4, 5] rfl) (ci := 2) (q0 := 0) rfl rfl, zw_go (hP.sub (ws' := wP h c st) [0, 1, 2, 3, 4, 5] rfl) (hD.sub (ws' := wP h c st) [0, 1, 2, 3, 4, 5] (by decide) rfl) (hK.sub (tys' := [(c 0, .int), (c 1, .int)]) [0, 1] rfl) (fun U hU hW => zz_go hZ hS (va_free (wc := wP h c st) hD hS hA [0, 1, 2, 3, 4, 5] rfl) hU hW)⟩ rfl rfl hl.1 rfl (lv_room (Nat.le_of_ble_eq_true rfl)) d_P_perform_92 ⟨Nat.le_of_ble_eq_true rfl, Nat.le_of_ble_eq_true rfl⟩) hP hD hS hA [0, 1, 2, 3, 4, 5] [] [0, 1, 2, 3, 4, 5] rfl rfl (by decide) (by decide) (by decide) (fun _ => rfl) (fun r_12 u_12 H locs hw hP hD hS => ?_)
      obtain ⟨er_12, eu_12⟩ := hw
      exact zl_i (u := u_12) hx hb hr hlocks hS hP hD (⟨by subst er_2; subst er_4; subst er_12; subst eu_12; simp only [f_perform, if_pos c_1, if_neg c_3, if_neg c_6, if_neg c_8, if_neg c_10], by subst er_2; subst er_4; subst er_12; subst eu_12; simp only [f_perform, if_pos c_1, if_neg c_3, if_neg c_6, if_neg c_8, if_neg c_10]⟩) d_P_perform_95
    refine lv_iconst (v := (1 : Int32)) hx hb d_P_perform_27 (by decide) ?_
    exact zl_i (u := st) hx hb hr hlocks hS hP hD (⟨by subst er_2; simp only [f_perform, if_pos c_1, if_pos c_3], by subst er_2; simp only [f_perform, if_pos c_1, if_pos c_3]⟩) d_P_perform_28
  refine lv_bipush (v := (7 : Int32)) hx hb d_P_perform_9 (by decide) ?_
  exact zl_i (u := st) hx hb hr hlocks hS hP hD (⟨by simp only [f_perform, if_neg c_1], by simp only [f_perform, if_neg c_1]⟩) d_P_perform_11
