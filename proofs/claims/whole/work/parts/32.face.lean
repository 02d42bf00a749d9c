theorem li_rangeL (w : Int64) : ∀ (n i : Nat), i + n = 9 → i ≤ 8 → 0 ≤ (fl_A_lettersIn_2 w n i).toInt ∧ (fl_A_lettersIn_2 w n i).toInt ≤ 8 := by
  intro n
  induction n with
  | zero => intro i h1 h2; omega
  | succ n ih =>
    intro i h1 h2
    have e : (nI i).toInt = (i : Int) := nI_toInt (by omega)
    have z : (0 : Int32).toInt = 0 := by decide
    unfold fl_A_lettersIn_2
    split
    · omega
    · rename_i c1
      have q := znlt (N := 8) (by omega) c1
      split
      · omega
      · split
        · omega
        · split
          · exact ih (i + 1) (by omega) (by omega)
          · omega
theorem li_range (w : Int64) : 0 ≤ (f_lettersIn w).toInt ∧ (f_lettersIn w).toInt ≤ 8 := li_rangeL w 9 0 rfl (by omega)
theorem le_ap {st : SA} {w : Int64} {r q : Int32} (hL : 0 ≤ (st.1 0).toInt ∧ (st.1 0).toInt ≤ 40) (er : r = f_lettersIn w) (eq : q = f_hasRoomFor st r) (c : ¬ q = (0 : Int32)) : 0 ≤ (st.1 0).toInt ∧ 0 ≤ r.toInt ∧ (st.1 0).toInt + r.toInt ≤ 40 := by
  have h := li_range w
  rw [← er] at h
  have c1 : ¬ (40 : Int32) < (st.1 0) + r := by
    intro z
    apply c
    rw [eq]
    unfold f_hasRoomFor
    simp [z]
  have c2 : ¬ (40 : Int32).toInt < ((st.1 0) + r).toInt := fun z => c1 (Int32.lt_iff_toInt_lt.mpr z)
  have e40 : (40 : Int32).toInt = 40 := by decide
  rw [Int32.toInt_add, e40, Int.bmod_eq_of_le (by omega) (by omega)] at c2
  omega
theorem cr_all {w r : Int32} (h : f_checkRegister w r = (0 : Int32)) : (¬ r < (0 : Int32) ∧ ¬ (32 : Int32) ≤ r) ∧ ¬ w < (0 : Int32) ∧ w < (4 : Int32) := by
  unfold f_checkRegister at h
  by_cases c1 : r < (0 : Int32)
  · simp [c1] at h
  · by_cases c2 : (32 : Int32) ≤ r
    · simp [c2] at h
    · by_cases c3 : w < (0 : Int32)
      · simp [c3] at h
      · by_cases c4 : w < (4 : Int32)
        · exact ⟨⟨c1, c2⟩, c3, c4⟩
        · simp [c1, c2, c3, c4] at h
theorem cr_w {w r : Int32} (h : f_checkRegister w r = (0 : Int32)) : vp_in w 4 := by
  obtain ⟨-, h1, h2⟩ := cr_all h
  obtain ⟨j, hj, rfl⟩ := nI_of h1
  exact vp_in_nI ((nI_ltI hj (by omega)).mp h2) (by omega)
theorem cr_n {w r : Int32} (h : f_checkRegister w r = (0 : Int32)) : vp_in r 32 := by
  obtain ⟨⟨h1, h2⟩, -⟩ := cr_all h
  obtain ⟨j, hj, rfl⟩ := nI_of h1
  exact vp_in_nI (znlt (N := 32) hj h2) (by omega)
theorem wo_step {st : SP} (h : okW st) : okW (f_step st) := by
  unfold f_step
  dsimp only
  refine okW_ite ?_ ?_
  · have h1 : okW (if (st.1 11) = (0 : Int32) then (f_perform (upd (upd st.1 13 ((st.1 13) + (1 : Int32))) 10 ((st.1 9) + (4 : Int32)), st.2.1, st.2.2.1, st.2.2.2)).2 else (upd (upd (upd st.1 13 ((st.1 13) + (1 : Int32))) 10 ((st.1 9) + (4 : Int32))) 11 (0 : Int32), st.2.1, st.2.2.1, st.2.2.2)) := okW_ite (wo_perform h) h
    exact h1
  · exact wo_takeTrap (okW_ite (wo_perform h) h)
theorem ru_k {p : Int32} {k : Nat} (hk : k ≤ 1000) (h : p.toInt ≤ 200) (c : ¬ p ≤ nI k) : k + 1 ≤ 200 := by
  have := ap_lt hk c
  omega
theorem ru_p {p : Int32} (h : p ≤ (200 : Int32)) : p.toInt ≤ 200 := by
  have q := Int32.le_iff_toInt_le.mp h
  have e : (200 : Int32).toInt = 200 := by decide
  omega
theorem d_X_letters_0 : decode c_X_letters 0 = .ok (.lload_n 1, 1) := by decide +kernel
theorem d_X_letters_1 : decode c_X_letters 1 = .ok (.invokestatic 32, 3) := by decide +kernel
theorem d_X_letters_4 : decode c_X_letters 4 = .ok (.istore_n 3, 1) := by decide +kernel
theorem d_X_letters_5 : decode c_X_letters 5 = .ok (.iload_n 3, 1) := by decide +kernel
theorem d_X_letters_6 : decode c_X_letters 6 = .ok (.ifCond .ne 13, 3) := by decide +kernel
theorem d_X_letters_9 : decode c_X_letters 9 = .ok (.new 36, 3) := by decide +kernel
theorem d_X_letters_12 : decode c_X_letters 12 = .ok (.dup, 1) := by decide +kernel
theorem d_X_letters_13 : decode c_X_letters 13 = .ok (.ldc 38, 2) := by decide +kernel
theorem d_X_letters_15 : decode c_X_letters 15 = .ok (.invokespecial 40, 3) := by decide +kernel
theorem d_X_letters_18 : decode c_X_letters 18 = .ok (.athrow, 1) := by decide +kernel
theorem d_X_letters_19 : decode c_X_letters 19 = .ok (.aload_n 0, 1) := by decide +kernel
theorem d_X_letters_20 : decode c_X_letters 20 = .ok (.getfield 19, 3) := by decide +kernel
theorem d_X_letters_23 : decode c_X_letters 23 = .ok (.iload_n 3, 1) := by decide +kernel
theorem d_X_letters_24 : decode c_X_letters 24 = .ok (.invokevirtual 43, 3) := by decide +kernel
theorem d_X_letters_27 : decode c_X_letters 27 = .ok (.ifCond .ne 13, 3) := by decide +kernel
theorem d_X_letters_30 : decode c_X_letters 30 = .ok (.new 47, 3) := by decide +kernel
theorem d_X_letters_33 : decode c_X_letters 33 = .ok (.dup, 1) := by decide +kernel
theorem d_X_letters_34 : decode c_X_letters 34 = .ok (.ldc 49, 2) := by decide +kernel
theorem d_X_letters_36 : decode c_X_letters 36 = .ok (.invokespecial 51, 3) := by decide +kernel
theorem d_X_letters_39 : decode c_X_letters 39 = .ok (.athrow, 1) := by decide +kernel
theorem d_X_letters_40 : decode c_X_letters 40 = .ok (.aload_n 0, 1) := by decide +kernel
theorem d_X_letters_41 : decode c_X_letters 41 = .ok (.getfield 19, 3) := by decide +kernel
theorem d_X_letters_44 : decode c_X_letters 44 = .ok (.lload_n 1, 1) := by decide +kernel
theorem d_X_letters_45 : decode c_X_letters 45 = .ok (.iload_n 3, 1) := by decide +kernel
theorem d_X_letters_46 : decode c_X_letters 46 = .ok (.invokevirtual 52, 3) := by decide +kernel
theorem d_X_letters_49 : decode c_X_letters 49 = .ok (.aload_n 0, 1) := by decide +kernel
theorem d_X_letters_50 : decode c_X_letters 50 = .ok (.getfield 19, 3) := by decide +kernel
theorem d_X_letters_53 : decode c_X_letters 53 = .ok (.getfield 56, 3) := by decide +kernel
theorem d_X_letters_56 : decode c_X_letters 56 = .ok (.ireturn, 1) := by decide +kernel
theorem kd_X_letters : (y_X_letters).cls = "WindowMachine" ∧ (y_X_letters).cls ≠ "java/lang/invoke/MethodHandle" ∧ (y_X_letters).cls ≠ "java/lang/invoke/VarHandle" ∧ (parseMethodDescriptor (y_X_letters).desc).map (fun d => d.parameters.length) = some 1 := by decide +kernel
def f_lettersX (st : SX) (p0 : Int64) : Int32 × Int32 × SX := (let r_1 := f_lettersIn p0; (if r_1 = (0 : Int32) then ((1 : Int32), (0 : Int32), st) else (let r_3 := f_hasRoomFor st.2 r_1; (if r_3 = (0 : Int32) then ((2 : Int32), (0 : Int32), st) else (let u_5 := f_append st.2 p0 r_1; ((0 : Int32), u_5.1 0, (st.1, u_5)))))))
set_option maxHeartbeats 4000000 in
set_option maxRecDepth 100000 in
theorem mt_X_letters (l : Launch) (hlt : l.stackTraces = false) (D : va_G) (za zk zv : Nat → Nat) (h : Nat → Nat) (c : Nat → ClassId) (sz : Nat) (st : SX) (p0 : Int64) (hL : 0 ≤ (st.2.1 0).toInt ∧ (st.2.1 0).toInt ≤ 40) : vx_Met l y_X_letters w_X_letters ({ frames := 6, cells := 1, slots := 6, locals := 86 }) (va_Pc [.ref (h 6), .long p0] (zw_pre D vwCl [(c 0, .int), (c 1, .int), (c 2, .char)] sz (wX h c st) (zy za zk zv (va_A (wX h c st) sz)))) (va_Qi (fun r (u : SX) => (f_lettersX st p0).1 = (0 : Int32) ∧ r = (f_lettersX st p0).2.1 ∧ u = (f_lettersX st p0).2.2) (fun u t => zw_at D vwCl (va_A (wX h c st) sz) ((fun (u : SX) => wX h c u) u) t) (va_A (wX h c st) sz)) (zx D vwCl (fun (u : SX) => ¬ (f_lettersX st p0).1 = (0 : Int32) ∧ u = (f_lettersX st p0).2.2) (fun E (_ : SX) => E = exA (f_lettersX st p0).1) (fun (u : SX) => wX h c u) (va_A (wX h c st) sz)) 1 6 (va_A (wX h c st) sz) := by
  refine zmx (Qf := fun A => va_Qi (fun r (u : SX) => (f_lettersX st p0).1 = (0 : Int32) ∧ r = (f_lettersX st p0).2.1 ∧ u = (f_lettersX st p0).2.2) (fun u t => zw_at D vwCl A ((fun (u : SX) => wX h c u) u) t) A) (Xf := fun A => zx D vwCl (fun (u : SX) => ¬ (f_lettersX st p0).1 = (0 : Int32) ∧ u = (f_lettersX st p0).2.2) (fun E (_ : SX) => E = exA (f_lettersX st p0).1) (fun (u : SX) => wX h c u) A) (Zf := fun A => zy za zk zv A) (cc := c_X_letters) (nL := 4) (ret := (some .int)) (by decide) rfl (Nat.le_of_ble_eq_true rfl) ?_
  intro p e s m below meth c9 A H locs ls hx hb hml hown hts hr hlocks hA hK hP hD hS hZ hl hex
  have hY := hZ
  have hZ := hZ.1
  have hl : lv_has ls 4 [(0, .ref (h 6)), (1, .long p0)] := hl
  have ht : ∀ w9 ∈ zT, w9.before _ s = true := fun w9 h9 => hts w9 (List.mem_cons_of_mem _ h9)
  refine lv_lload_n hx hb d_X_letters_0 rfl (lv_at hl 1 rfl) ?_
  refine zc_i (w2 := fun _ => wX h c st) (va_runS (As := [.long p0]) (rest := []) ⟨hx, hb, hml, hown, ht⟩ (mt_A_lettersIn l D H.size p0) (va_cwS 1 ht (zgO zw_197 zw_198 zw_3 zw_199) rfl rfl rfl kd_A_lettersIn.2 ⟨Nat.le_of_ble_eq_true rfl, Nat.le_of_ble_eq_true rfl⟩) ⟨zw_blind zw_tt, zw_go (hP.sub (ws' := []) [] rfl) (hD.sub (ws' := []) [] (by decide) rfl) (hK.sub (tys' := []) [] rfl) (fun _ _ _ => trivial)⟩ rfl rfl hl.1 rfl (lv_room (Nat.le_of_ble_eq_true rfl)) d_X_letters_1 ⟨Nat.le_of_ble_eq_true rfl, Nat.le_of_ble_eq_true rfl⟩) hP hD hS hA [] [0, 1, 2, 3, 4, 5, 6, 7, 8] [0, 1, 2, 3, 4, 5, 6, 7, 8] rfl rfl (by decide) (by decide) (by decide) (fun _ => rfl) (fun r_1 _ H locs hw hP hD hS => ?_)
  have er_1 := hw
  refine lv_istore_n (lv' := [(3, .int r_1), (0, .ref (h 6)), (1, .long p0)]) hx hb d_X_letters_4 rfl hl (by decide) rfl (fun ls hl => ?_)
  refine lv_iload_n hx hb d_X_letters_5 rfl (lv_at hl 0 rfl) ?_
  refine lv_if_ne (tgt := 19) hx hb d_X_letters_6 (by decide) (fun c_2 => ?_) (fun c_2 => ?_)
  · refine lv_aload_n hx hb d_X_letters_19 rfl (lv_at hl 1 rfl) ?_
    refine va_get (D := D) (ci := 5) (v := .ref (h 7)) (C := "WindowMachine") (T := T_X) (N := 3) hx hb ht zi_X hown hK hP 0 rfl rfl 1 (by decide) (ht _ zw_175) (fun _ h9 => h9) rfl d_X_letters_20 ?_
    refine lv_iload_n hx hb d_X_letters_23 rfl (lv_at hl 0 rfl) ?_
    refine zc_i (w2 := fun _ => wX h c st) (va_runV (As := [.int r_1]) (rest := []) ⟨hx, hb, hml, hown, ht⟩ (mt_A_hasRoomFor l D (h 7) (h 8) (c 2) H.size st.2 r_1) (cwV 1 ht (zgV zw_271 zw_272 zw_273 zw_3 zw_274) rfl rfl rfl kd_A_hasRoomFor ⟨Nat.le_of_ble_eq_true rfl, Nat.le_of_ble_eq_true rfl⟩) ⟨zw_blind zw_tt, va_recv (hK.sub (tys' := [((c 2), .char)]) [2] rfl) (hP.sub (ws' := wA (h 7) (h 8) (c 2) st.2) [7, 8] rfl) (ci := 0) (q0 := 0) rfl rfl, zw_go (hP.sub (ws' := wA (h 7) (h 8) (c 2) st.2) [7, 8] rfl) (hD.sub (ws' := wA (h 7) (h 8) (c 2) st.2) [7, 8] (by decide) rfl) (hK.sub (tys' := [((c 2), .char)]) [2] rfl) (fun _ _ _ => trivial)⟩ rfl rfl hl.1 rfl (lv_room (Nat.le_of_ble_eq_true rfl)) d_X_letters_24 ⟨Nat.le_of_ble_eq_true rfl, Nat.le_of_ble_eq_true rfl⟩) hP hD hS hA [7, 8] [0, 1, 2, 3, 4, 5, 6] [0, 1, 2, 3, 4, 5, 6, 7, 8] rfl rfl (by decide) (by decide) (by decide) (fun _ => rfl) (fun r_3 _ H locs hw hP hD hS => ?_)
    have er_3 := hw
    refine lv_if_ne (tgt := 40) hx hb d_X_letters_27 (by decide) (fun c_4 => ?_) (fun c_4 => ?_)
    · refine lv_aload_n hx hb d_X_letters_40 rfl (lv_at hl 1 rfl) ?_
      refine va_get (D := D) (ci := 5) (v := .ref (h 7)) (C := "WindowMachine") (T := T_X) (N := 3) hx hb ht zi_X hown hK hP 0 rfl rfl 1 (by decide) (ht _ zw_175) (fun _ h9 => h9) rfl d_X_letters_41 ?_
      refine lv_lload_n hx hb d_X_letters_44 rfl (lv_at hl 2 rfl) ?_
      refine lv_iload_n hx hb d_X_letters_45 rfl (lv_at hl 0 rfl) ?_
      refine zc_v (w2 := fun u9 => wX h c (st.1, u9)) (va_runV (As := [.long p0, .int r_1]) (rest := []) ⟨hx, hb, hml, hown, ht⟩ (mt_A_append l D (h 7) (h 8) (c 2) H.size st.2 p0 r_1 (le_ap hL er_1 er_3 c_4)) (cwV 2 ht (zgV zw_291 zw_292 zw_293 zw_3 zw_294) rfl rfl rfl kd_A_append ⟨Nat.le_of_ble_eq_true rfl, Nat.le_of_ble_eq_true rfl⟩) ⟨zw_blind zw_tt, va_recv (hK.sub (tys' := [((c 2), .char)]) [2] rfl) (hP.sub (ws' := wA (h 7) (h 8) (c 2) st.2) [7, 8] rfl) (ci := 0) (q0 := 0) rfl rfl, zw_go (hP.sub (ws' := wA (h 7) (h 8) (c 2) st.2) [7, 8] rfl) (hD.sub (ws' := wA (h 7) (h 8) (c 2) st.2) [7, 8] (by decide) rfl) (hK.sub (tys' := [((c 2), .char)]) [2] rfl) (fun _ _ _ => trivial)⟩ rfl rfl hl.1 rfl (lv_room (Nat.le_of_ble_eq_true rfl)) d_X_letters_46 ⟨Nat.le_of_ble_eq_true rfl, Nat.le_of_ble_eq_true rfl⟩) hP hD hS hA [7, 8] [0, 1, 2, 3, 4, 5, 6] [0, 1, 2, 3, 4, 5, 6, 7, 8] rfl rfl (by decide) (by decide) (by decide) (fun _ => rfl) (fun u_5 H locs hw hP hD hS => ?_)
      have eu_5 := hw
      refine lv_aload_n hx hb d_X_letters_49 rfl (lv_at hl 1 rfl) ?_
      refine va_get (D := D) (ci := 5) (v := .ref (h 7)) (C := "WindowMachine") (T := T_X) (N := 3) hx hb ht zi_X hown hK hP 0 rfl rfl 1 (by decide) (ht _ zw_175) (fun _ h9 => h9) rfl d_X_letters_50 ?_
      refine va_getN (D := D) (ci := 0) (v := .int (u_5.1 0)) (C := "WindowMachine$Assembler") (T := T_A) (N := 5) hx hb ht zi_A hown hK hP 7 rfl rfl 1 (by decide) (va_Nw.use rfl (zz_n45 hZ)) (fun _ h9 => h9) rfl d_X_letters_53 ?_
      refine W.widen (k := 1) (n := 6) (Nat.le_of_ble_eq_true rfl) (Nat.le_of_ble_eq_true rfl) ?_
      exact vx_ret (zl_i (u := (st.1, u_5)) hx hb hr hlocks hS hP hD (⟨by simp only [f_lettersX, ← er_1, ← er_3, ← eu_5, if_neg c_2, if_neg c_4], by simp only [f_lettersX, ← er_1, ← er_3, ← eu_5, if_neg c_2, if_neg c_4], by simp only [f_lettersX, ← er_1, ← er_3, ← eu_5, if_neg c_2, if_neg c_4]⟩) d_X_letters_56)
    exact vx_throwS hx hb hlt (own := "WindowMachine") (cls := "java/lang/IndexOutOfBoundsException") (text := "the line would be too long") (names := ["java/lang/RuntimeException", "java/lang/Exception"]) (sa := zk 10) (A := A) hown (by decide) (by decide) (ht _ zw_275) (ht _ zw_12) (zz_r10 hZ) (hat_51 ht hY) ho_51 (zz_us hZ) (zz_ss hZ) hS (hl.1.trans hml.symm) d_X_letters_30 d_X_letters_33 d_X_letters_34 d_X_letters_36 d_X_letters_39 (fun x9 h9 => (hex x9 h9).elim) (Nat.le_of_ble_eq_true rfl) (Nat.le_of_ble_eq_true rfl) (Nat.le_of_ble_eq_true rfl) (Nat.le_of_ble_eq_true rfl) hlocks (zx_fin (u := st) hP hD hS ⟨by simp only [f_lettersX, ← er_1, ← er_3, if_neg c_2, if_pos c_4]; decide, by simp only [f_lettersX, ← er_1, ← er_3, if_neg c_2, if_pos c_4]⟩ (by simp only [f_lettersX, ← er_1, ← er_3, if_neg c_2, if_pos c_4]; rfl)) hS.2.2 (Nat.le_of_ble_eq_true rfl) (Nat.le_of_ble_eq_true rfl)
  exact vx_throwS hx hb hlt (own := "WindowMachine") (cls := "java/lang/IllegalArgumentException") (text := "an octet is no letter") (names := ["java/lang/RuntimeException", "java/lang/Exception"]) (sa := zk 9) (A := A) hown (by decide) (by decide) (ht _ zw_203) (ht _ zw_11) (zz_r9 hZ) (hat_40 ht hY) ho_40 (zz_us hZ) (zz_ss hZ) hS (hl.1.trans hml.symm) d_X_letters_9 d_X_letters_12 d_X_letters_13 d_X_letters_15 d_X_letters_18 (fun x9 h9 => (hex x9 h9).elim) (Nat.le_of_ble_eq_true rfl) (Nat.le_of_ble_eq_true rfl) (Nat.le_of_ble_eq_true rfl) (Nat.le_of_ble_eq_true rfl) hlocks (zx_fin (u := st) hP hD hS ⟨by simp only [f_lettersX, ← er_1, if_pos c_2]; decide, by simp only [f_lettersX, ← er_1, if_pos c_2]⟩ (by simp only [f_lettersX, ← er_1, if_pos c_2]; rfl)) hS.2.2 (Nat.le_of_ble_eq_true rfl) (Nat.le_of_ble_eq_true rfl)
theorem d_X_assemble_0 : decode c_X_assemble 0 = .ok (.aload_n 0, 1) := by decide +kernel
theorem d_X_assemble_1 : decode c_X_assemble 1 = .ok (.getfield 19, 3) := by decide +kernel
theorem d_X_assemble_4 : decode c_X_assemble 4 = .ok (.invokevirtual 60, 3) := by decide +kernel
theorem d_X_assemble_7 : decode c_X_assemble 7 = .ok (.istore_n 2, 1) := by decide +kernel
theorem d_X_assemble_8 : decode c_X_assemble 8 = .ok (.aload_n 0, 1) := by decide +kernel
theorem d_X_assemble_9 : decode c_X_assemble 9 = .ok (.getfield 19, 3) := by decide +kernel
theorem d_X_assemble_12 : decode c_X_assemble 12 = .ok (.getfield 64, 3) := by decide +kernel
theorem d_X_assemble_15 : decode c_X_assemble 15 = .ok (.iconst (-1), 1) := by decide +kernel
theorem d_X_assemble_16 : decode c_X_assemble 16 = .ok (.if_icmp .eq 13, 3) := by decide +kernel
theorem d_X_assemble_19 : decode c_X_assemble 19 = .ok (.new 36, 3) := by decide +kernel
theorem d_X_assemble_22 : decode c_X_assemble 22 = .ok (.dup, 1) := by decide +kernel
theorem d_X_assemble_23 : decode c_X_assemble 23 = .ok (.ldc 67, 2) := by decide +kernel
theorem d_X_assemble_25 : decode c_X_assemble 25 = .ok (.invokespecial 40, 3) := by decide +kernel
theorem d_X_assemble_28 : decode c_X_assemble 28 = .ok (.athrow, 1) := by decide +kernel
theorem d_X_assemble_29 : decode c_X_assemble 29 = .ok (.aload_n 0, 1) := by decide +kernel
theorem d_X_assemble_30 : decode c_X_assemble 30 = .ok (.iload_n 1, 1) := by decide +kernel
theorem d_X_assemble_31 : decode c_X_assemble 31 = .ok (.invokevirtual 69, 3) := by decide +kernel
theorem d_X_assemble_34 : decode c_X_assemble 34 = .ok (.aload_n 0, 1) := by decide +kernel
theorem d_X_assemble_35 : decode c_X_assemble 35 = .ok (.getfield 10, 3) := by decide +kernel
theorem d_X_assemble_38 : decode c_X_assemble 38 = .ok (.iload_n 1, 1) := by decide +kernel
theorem d_X_assemble_39 : decode c_X_assemble 39 = .ok (.iconst 4, 1) := by decide +kernel
theorem d_X_assemble_40 : decode c_X_assemble 40 = .ok (.iload_n 2, 1) := by decide +kernel
theorem d_X_assemble_41 : decode c_X_assemble 41 = .ok (.invokevirtual 73, 3) := by decide +kernel
theorem d_X_assemble_44 : decode c_X_assemble 44 = .ok (.iload_n 2, 1) := by decide +kernel
theorem d_X_assemble_45 : decode c_X_assemble 45 = .ok (.ireturn, 1) := by decide +kernel
theorem kd_X_assemble : (y_X_assemble).cls = "WindowMachine" ∧ (y_X_assemble).cls ≠ "java/lang/invoke/MethodHandle" ∧ (y_X_assemble).cls ≠ "java/lang/invoke/VarHandle" ∧ (parseMethodDescriptor (y_X_assemble).desc).map (fun d => d.parameters.length) = some 1 := by decide +kernel
def f_assembleX (st : SX) (p0 : Int32) : Int32 × Int32 × SX := (let r_1 := (f_translate st.2).1; (let u_1 := (f_translate st.2).2; (if (u_1.1 2) = (-1 : Int32) then (if f_checkWordAt p0 = (0 : Int32) then (let u_4 := f_store st.1.2.2.2 p0 (4 : Int32) r_1; ((0 : Int32), r_1, ((st.1.1, st.1.2.1, st.1.2.2.1, u_4), u_1))) else ((2 : Int32), (0 : Int32), (st.1, u_1))) else ((1 : Int32), (0 : Int32), (st.1, u_1)))))
set_option maxHeartbeats 4000000 in
set_option maxRecDepth 100000 in
theorem mt_X_assemble (l : Launch) (hlt : l.stackTraces = false) (D : va_G) (za zk zv : Nat → Nat) (h : Nat → Nat) (c : Nat → ClassId) (sz : Nat) (st : SX) (p0 : Int32) (hL : 0 ≤ (st.2.1 0).toInt ∧ (st.2.1 0).toInt ≤ 40) : vx_Met l y_X_assemble w_X_assemble ({ frames := 10, cells := 1, slots := 6, locals := 222 }) (va_Pc [.ref (h 6), .int p0] (zw_pre D vwCl [(c 0, .int), (c 1, .int), (c 2, .char)] sz (wX h c st) (zy za zk zv (va_A (wX h c st) sz)))) (va_Qi (fun r (u : SX) => (f_assembleX st p0).1 = (0 : Int32) ∧ r = (f_assembleX st p0).2.1 ∧ u = (f_assembleX st p0).2.2) (fun u t => zw_at D vwCl (va_A (wX h c st) sz) ((fun (u : SX) => wX h c u) u) t) (va_A (wX h c st) sz)) (zx D vwCl (fun (u : SX) => ¬ (f_assembleX st p0).1 = (0 : Int32) ∧ u = (f_assembleX st p0).2.2) (fun E (_ : SX) => E = exA (f_assembleX st p0).1) (fun (u : SX) => wX h c u) (va_A (wX h c st) sz)) 1 6 (va_A (wX h c st) sz) := by
  refine zmx (Qf := fun A => va_Qi (fun r (u : SX) => (f_assembleX st p0).1 = (0 : Int32) ∧ r = (f_assembleX st p0).2.1 ∧ u = (f_assembleX st p0).2.2) (fun u t => zw_at D vwCl A ((fun (u : SX) => wX h c u) u) t) A) (Xf := fun A => zx D vwCl (fun (u : SX) => ¬ (f_assembleX st p0).1 = (0 : Int32) ∧ u = (f_assembleX st p0).2.2) (fun E (_ : SX) => E = exA (f_assembleX st p0).1) (fun (u : SX) => wX h c u) A) (Zf := fun A => zy za zk zv A) (cc := c_X_assemble) (nL := 3) (ret := (some .int)) (by decide) rfl (Nat.le_of_ble_eq_true rfl) ?_
  intro p e s m below meth c9 A H locs ls hx hb hml hown hts hr hlocks hA hK hP hD hS hZ hl hex
  have hY := hZ
  have hZ := hZ.1
  have hl : lv_has ls 3 [(0, .ref (h 6)), (1, .int p0)] := hl
  have ht : ∀ w9 ∈ zT, w9.before _ s = true := fun w9 h9 => hts w9 (List.mem_cons_of_mem _ h9)
  refine lv_aload_n hx hb d_X_assemble_0 rfl (lv_at hl 0 rfl) ?_
  refine va_get (D := D) (ci := 5) (v := .ref (h 7)) (C := "WindowMachine") (T := T_X) (N := 3) hx hb ht zi_X hown hK hP 0 rfl rfl 1 (by decide) (ht _ zw_175) (fun _ h9 => h9) rfl d_X_assemble_1 ?_
  refine zc_i (w2 := fun u9 => wX h c (st.1, u9)) (va_runV (As := []) (rest := []) ⟨hx, hb, hml, hown, ht⟩ (mt_A_translate l D za zk zv (h 7) (h 8) (c 2) H.size st.2 hL) (cwV 0 ht (zgV zw_302 zw_303 zw_304 zw_3 zw_305) rfl rfl rfl kd_A_translate ⟨Nat.le_of_ble_eq_true rfl, Nat.le_of_ble_eq_true rfl⟩) ⟨zw_blind zz_bl, va_recv (hK.sub (tys' := [((c 2), .char)]) [2] rfl) (hP.sub (ws' := wA (h 7) (h 8) (c 2) st.2) [7, 8] rfl) (ci := 0) (q0 := 0) rfl rfl, zw_go (hP.sub (ws' := wA (h 7) (h 8) (c 2) st.2) [7, 8] rfl) (hD.sub (ws' := wA (h 7) (h 8) (c 2) st.2) [7, 8] (by decide) rfl) (hK.sub (tys' := [((c 2), .char)]) [2] rfl) (fun U hU hW => zz_go hZ hS (va_free (wc := wA (h 7) (h 8) (c 2) st.2) hD hS hA [7, 8] rfl) hU hW)⟩ rfl rfl hl.1 rfl (lv_room (Nat.le_of_ble_eq_true rfl)) d_X_assemble_4 ⟨Nat.le_of_ble_eq_true rfl, Nat.le_of_ble_eq_true rfl⟩) hP hD hS hA [7, 8] [0, 1, 2, 3, 4, 5, 6] [0, 1, 2, 3, 4, 5, 6, 7, 8] rfl rfl (by decide) (by decide) (by decide) (fun _ => rfl) (fun r_1 u_1 H locs hw hP hD hS => ?_)
  obtain ⟨er_1, eu_1⟩ := hw
  refine lv_istore_n (lv' := [(2, .int r_1), (0, .ref (h 6)), (1, .int p0)]) hx hb d_X_assemble_7 rfl hl (by decide) rfl (fun ls hl => ?_)
  refine lv_aload_n hx hb d_X_assemble_8 rfl (lv_at hl 1 rfl) ?_
  refine va_get (D := D) (ci := 5) (v := .ref (h 7)) (C := "WindowMachine") (T := T_X) (N := 3) hx hb ht zi_X hown hK hP 0 rfl rfl 1 (by decide) (ht _ zw_175) (fun _ h9 => h9) rfl d_X_assemble_9 ?_
  refine va_getN (D := D) (ci := 0) (v := .int (u_1.1 2)) (C := "WindowMachine$Assembler") (T := T_A) (N := 5) hx hb ht zi_A hown hK hP 7 rfl rfl 3 (by decide) (va_Nw.use rfl (zz_n49 hZ)) (fun _ h9 => h9) rfl d_X_assemble_12 ?_
  refine lv_iconst (v := (-1 : Int32)) hx hb d_X_assemble_15 (by decide) ?_
  refine lv_icmp_eq (tgt := 29) hx hb d_X_assemble_16 (by decide) (fun c_2 => ?_) (fun c_2 => ?_)
  · refine lv_aload_n hx hb d_X_assemble_29 rfl (lv_at hl 1 rfl) ?_
    refine lv_iload_n hx hb d_X_assemble_30 rfl (lv_at hl 2 rfl) ?_
    refine zxc_v (w2 := fun _ => wX h c (st.1, u_1)) (w3 := fun _ => wX h c (st.1, u_1)) (vx_runV (As := [.int p0]) (rest := []) ⟨hx, hb, hml, hown, ht⟩ (mt_X_checkWordAt l hlt D za zk zv h c H.size (st.1, u_1) p0) (cwV 1 ht (zgV zw_451 zw_453 zs_20 zw_1 zw_454) rfl rfl rfl kd_X_checkWordAt ⟨Nat.le_of_ble_eq_true rfl, Nat.le_of_ble_eq_true rfl⟩) ⟨zw_blind zy_bl, va_recv (hK.sub (tys' := [(c 0, .int), (c 1, .int), (c 2, .char)]) [0, 1, 2] rfl) (hP.sub (ws' := wX h c (st.1, u_1)) [0, 1, 2, 3, 4, 5, 6, 7, 8] rfl) (ci := 5) (q0 := 0) rfl rfl, zw_go (hP.sub (ws' := wX h c (st.1, u_1)) [0, 1, 2, 3, 4, 5, 6, 7, 8] rfl) (hD.sub (ws' := wX h c (st.1, u_1)) [0, 1, 2, 3, 4, 5, 6, 7, 8] (by decide) rfl) (hK.sub (tys' := [(c 0, .int), (c 1, .int), (c 2, .char)]) [0, 1, 2] rfl) (fun U hU hW => zy_go hY hS (va_free (wc := wX h c (st.1, u_1)) hD hS hA [0, 1, 2, 3, 4, 5, 6, 7, 8] rfl) hU hW)⟩ rfl rfl hl.1 rfl (lv_room (Nat.le_of_ble_eq_true rfl)) d_X_assemble_31 ⟨Nat.le_of_ble_eq_true rfl, Nat.le_of_ble_eq_true rfl⟩) hP hD hS hA [0, 1, 2, 3, 4, 5, 6, 7, 8] [] [0, 1, 2, 3, 4, 5, 6, 7, 8] rfl rfl (by decide) (by decide) (by decide) (fun _ => rfl) (fun _ => rfl) hex hlocks (Nat.le_of_ble_eq_true rfl) (Nat.le_of_ble_eq_true rfl) (fun E _ H locs hp hE hP hD hS => zx_at (u := (st.1, u_1)) hP hD hS ⟨by simp only [f_assembleX, ← er_1, ← eu_1, if_pos c_2, if_neg hp]; decide, by simp only [f_assembleX, ← er_1, ← eu_1, if_pos c_2, if_neg hp]⟩ (by rw [hE]; simp only [f_assembleX, ← er_1, ← eu_1, if_pos c_2, if_neg hp]; rfl)) (fun _ H locs hw_3 hP hD hS => ?_)
    refine lv_aload_n hx hb d_X_assemble_34 rfl (lv_at hl 1 rfl) ?_
    refine va_get (D := D) (ci := 5) (v := .ref (h 1)) (C := "WindowMachine") (T := T_X) (N := 3) hx hb ht zi_X hown hK hP 0 rfl rfl 0 (by decide) (ht _ zw_174) (fun _ h9 => h9) rfl d_X_assemble_35 ?_
    refine lv_iload_n hx hb d_X_assemble_38 rfl (lv_at hl 2 rfl) ?_
    refine lv_iconst (v := (4 : Int32)) hx hb d_X_assemble_39 (by decide) ?_
    refine lv_iload_n hx hb d_X_assemble_40 rfl (lv_at hl 0 rfl) ?_
    refine zc_v (w2 := fun u9 => wX h c ((st.1.1, st.1.2.1, st.1.2.2.1, u9), u_1)) (va_runV (As := [.int p0, .int (4 : Int32), .int r_1]) (rest := []) ⟨hx, hb, hml, hown, ht⟩ (mt_M_store l D (h 1) (h 2) (c 0) H.size st.1.2.2.2 p0 (4 : Int32) r_1 (cw_in hw_3)) (cwV 3 ht (zgV zw_464 zw_465 zw_466 zw_2 zw_467) rfl rfl rfl kd_M_store ⟨Nat.le_of_ble_eq_true rfl, Nat.le_of_ble_eq_true rfl⟩) ⟨zw_blind zw_tt, va_recv (hK.sub (tys' := [((c 0), .int)]) [0] rfl) (hP.sub (ws' := wM (h 1) (h 2) (c 0) st.1.2.2.2) [2, 3] rfl) (ci := 1) (q0 := 0) rfl rfl, zw_go (hP.sub (ws' := wM (h 1) (h 2) (c 0) st.1.2.2.2) [2, 3] rfl) (hD.sub (ws' := wM (h 1) (h 2) (c 0) st.1.2.2.2) [2, 3] (by decide) rfl) (hK.sub (tys' := [((c 0), .int)]) [0] rfl) (fun _ _ _ => trivial)⟩ rfl rfl hl.1 rfl (lv_room (Nat.le_of_ble_eq_true rfl)) d_X_assemble_41 ⟨Nat.le_of_ble_eq_true rfl, Nat.le_of_ble_eq_true rfl⟩) hP hD hS hA [2, 3] [0, 1, 4, 5, 6, 7, 8] [0, 1, 7, 8, 2, 3, 4, 5, 6] rfl rfl (by decide) (by decide) (by decide) (fun _ => rfl) (fun u_4 H locs hw hP hD hS => ?_)
    have eu_4 := hw
    refine lv_iload_n hx hb d_X_assemble_44 rfl (lv_at hl 0 rfl) ?_
    exact vx_ret (zl_i (u := ((st.1.1, st.1.2.1, st.1.2.2.1, u_4), u_1)) hx hb hr hlocks hS hP hD (⟨by simp only [f_assembleX, ← er_1, ← eu_1, ← eu_4, if_pos c_2, if_pos hw_3], by simp only [f_assembleX, ← er_1, ← eu_1, ← eu_4, if_pos c_2, if_pos hw_3], by simp only [f_assembleX, ← er_1, ← eu_1, ← eu_4, if_pos c_2, if_pos hw_3]⟩) d_X_assemble_45)
  exact vx_throwS hx hb hlt (own := "WindowMachine") (cls := "java/lang/IllegalArgumentException") (text := "the line is no instruction") (names := ["java/lang/RuntimeException", "java/lang/Exception"]) (sa := zk 11) (A := A) hown (by decide) (by decide) (ht _ zw_203) (ht _ zw_11) (zz_r11 hZ) (hat_40 ht hY) ho_40 (zz_us hZ) (zz_ss hZ) hS (hl.1.trans hml.symm) d_X_assemble_19 d_X_assemble_22 d_X_assemble_23 d_X_assemble_25 d_X_assemble_28 (fun x9 h9 => (hex x9 h9).elim) (Nat.le_of_ble_eq_true rfl) (Nat.le_of_ble_eq_true rfl) (Nat.le_of_ble_eq_true rfl) (Nat.le_of_ble_eq_true rfl) hlocks (zx_fin (u := (st.1, u_1)) hP hD hS ⟨by simp only [f_assembleX, ← er_1, ← eu_1, if_neg c_2]; decide, by simp only [f_assembleX, ← er_1, ← eu_1, if_neg c_2]⟩ (by simp only [f_assembleX, ← er_1, ← eu_1, if_neg c_2]; rfl)) hS.2.2 (Nat.le_of_ble_eq_true rfl) (Nat.le_of_ble_eq_true rfl)
theorem d_X_run_0 : decode c_X_run 0 = .ok (.iload_n 1, 1) := by decide +kernel
theorem d_X_run_1 : decode c_X_run 1 = .ok (.iconst 1, 1) := by decide +kernel
theorem d_X_run_2 : decode c_X_run 2 = .ok (.if_icmp .lt 10, 3) := by decide +kernel
theorem d_X_run_5 : decode c_X_run 5 = .ok (.iload_n 1, 1) := by decide +kernel
theorem d_X_run_6 : decode c_X_run 6 = .ok (.sipush 200, 3) := by decide +kernel
theorem d_X_run_9 : decode c_X_run 9 = .ok (.if_icmp .le 13, 3) := by decide +kernel
theorem d_X_run_12 : decode c_X_run 12 = .ok (.new 36, 3) := by decide +kernel
theorem d_X_run_15 : decode c_X_run 15 = .ok (.dup, 1) := by decide +kernel
theorem d_X_run_16 : decode c_X_run 16 = .ok (.ldc 81, 2) := by decide +kernel
theorem d_X_run_18 : decode c_X_run 18 = .ok (.invokespecial 40, 3) := by decide +kernel
theorem d_X_run_21 : decode c_X_run 21 = .ok (.athrow, 1) := by decide +kernel
theorem d_X_run_22 : decode c_X_run 22 = .ok (.aload_n 0, 1) := by decide +kernel
theorem d_X_run_23 : decode c_X_run 23 = .ok (.getfield 28, 3) := by decide +kernel
theorem d_X_run_26 : decode c_X_run 26 = .ok (.invokevirtual 83, 3) := by decide +kernel
theorem d_X_run_29 : decode c_X_run 29 = .ok (.ifCond .eq 13, 3) := by decide +kernel
theorem d_X_run_32 : decode c_X_run 32 = .ok (.new 87, 3) := by decide +kernel
theorem d_X_run_35 : decode c_X_run 35 = .ok (.dup, 1) := by decide +kernel
theorem d_X_run_36 : decode c_X_run 36 = .ok (.ldc 89, 2) := by decide +kernel
theorem d_X_run_38 : decode c_X_run 38 = .ok (.invokespecial 91, 3) := by decide +kernel
theorem d_X_run_41 : decode c_X_run 41 = .ok (.athrow, 1) := by decide +kernel
theorem d_X_run_42 : decode c_X_run 42 = .ok (.iconst 0, 1) := by decide +kernel
theorem d_X_run_43 : decode c_X_run 43 = .ok (.istore_n 2, 1) := by decide +kernel
theorem d_X_run_44 : decode c_X_run 44 = .ok (.iload_n 2, 1) := by decide +kernel
theorem d_X_run_45 : decode c_X_run 45 = .ok (.iload_n 1, 1) := by decide +kernel
theorem d_X_run_46 : decode c_X_run 46 = .ok (.if_icmp .ge 26, 3) := by decide +kernel
theorem d_X_run_49 : decode c_X_run 49 = .ok (.aload_n 0, 1) := by decide +kernel
theorem d_X_run_50 : decode c_X_run 50 = .ok (.getfield 28, 3) := by decide +kernel
theorem d_X_run_53 : decode c_X_run 53 = .ok (.invokevirtual 83, 3) := by decide +kernel
theorem d_X_run_56 : decode c_X_run 56 = .ok (.ifCond .ne 16, 3) := by decide +kernel
theorem d_X_run_59 : decode c_X_run 59 = .ok (.aload_n 0, 1) := by decide +kernel
theorem d_X_run_60 : decode c_X_run 60 = .ok (.getfield 28, 3) := by decide +kernel
theorem d_X_run_63 : decode c_X_run 63 = .ok (.invokevirtual 92, 3) := by decide +kernel
theorem d_X_run_66 : decode c_X_run 66 = .ok (.iinc 2 1, 3) := by decide +kernel
theorem d_X_run_69 : decode c_X_run 69 = .ok (.goto (-25), 3) := by decide +kernel
theorem d_X_run_72 : decode c_X_run 72 = .ok (.iload_n 2, 1) := by decide +kernel
theorem d_X_run_73 : decode c_X_run 73 = .ok (.ireturn, 1) := by decide +kernel
theorem kd_X_run : (y_X_run).cls = "WindowMachine" ∧ (y_X_run).cls ≠ "java/lang/invoke/MethodHandle" ∧ (y_X_run).cls ≠ "java/lang/invoke/VarHandle" ∧ (parseMethodDescriptor (y_X_run).desc).map (fun d => d.parameters.length) = some 1 := by decide +kernel
def fl_X_run_44 (st : SX) (p0 : Int32) : Nat → Nat → SX → Int32 × Int32 × SX
  | 0, _, u_6 => (0, 0, u_6)
  | n9 + 1, i_5, u_6 => (if p0 ≤ (nI i_5) then ((0 : Int32), nI i_5, u_6) else (let r_9 := f_hasHalted u_6.1; (if r_9 = (0 : Int32) then (let u_11 := f_step u_6.1; fl_X_run_44 st p0 n9 (i_5 + 1) (u_11, u_6.2)) else ((0 : Int32), nI i_5, u_6))))
def f_runX (st : SX) (p0 : Int32) : Int32 × Int32 × SX := (if p0 < (1 : Int32) then ((1 : Int32), (0 : Int32), st) else (if p0 ≤ (200 : Int32) then (let r_3 := f_hasHalted st.1; (if r_3 = (0 : Int32) then fl_X_run_44 st p0 202 0 st else ((2 : Int32), (0 : Int32), st))) else ((1 : Int32), (0 : Int32), st)))
set_option maxHeartbeats 4000000 in
set_option maxRecDepth 100000 in
theorem mt_X_run (l : Launch) (hlt : l.stackTraces = false) (D : va_G) (za zk zv : Nat → Nat) (h : Nat → Nat) (c : Nat → ClassId) (sz : Nat) (st : SX) (p0 : Int32) (hW : okW st.1) : vx_Met l y_X_run w_X_run ({ frames := 7, cells := 1, slots := 6, locals := 165 }) (va_Pc [.ref (h 6), .int p0] (zw_pre D vwCl [(c 0, .int), (c 1, .int), (c 2, .char)] sz (wX h c st) (zy za zk zv (va_A (wX h c st) sz)))) (va_Qi (fun r (u : SX) => (f_runX st p0).1 = (0 : Int32) ∧ r = (f_runX st p0).2.1 ∧ u = (f_runX st p0).2.2) (fun u t => zw_at D vwCl (va_A (wX h c st) sz) ((fun (u : SX) => wX h c u) u) t) (va_A (wX h c st) sz)) (zx D vwCl (fun (u : SX) => ¬ (f_runX st p0).1 = (0 : Int32) ∧ u = (f_runX st p0).2.2) (fun E (_ : SX) => E = exR (f_runX st p0).1) (fun (u : SX) => wX h c u) (va_A (wX h c st) sz)) 1 6 (va_A (wX h c st) sz) := by
  refine zmx (Qf := fun A => va_Qi (fun r (u : SX) => (f_runX st p0).1 = (0 : Int32) ∧ r = (f_runX st p0).2.1 ∧ u = (f_runX st p0).2.2) (fun u t => zw_at D vwCl A ((fun (u : SX) => wX h c u) u) t) A) (Xf := fun A => zx D vwCl (fun (u : SX) => ¬ (f_runX st p0).1 = (0 : Int32) ∧ u = (f_runX st p0).2.2) (fun E (_ : SX) => E = exR (f_runX st p0).1) (fun (u : SX) => wX h c u) A) (Zf := fun A => zy za zk zv A) (cc := c_X_run) (nL := 3) (ret := (some .int)) (by decide) rfl (Nat.le_of_ble_eq_true rfl) ?_
  intro p e s m below meth c9 A H locs ls hx hb hml hown hts hr hlocks hA hK hP hD hS hZ hl hex
  have hY := hZ
  have hZ := hZ.1
  have hl : lv_has ls 3 [(0, .ref (h 6)), (1, .int p0)] := hl
  have ht : ∀ w9 ∈ zT, w9.before _ s = true := fun w9 h9 => hts w9 (List.mem_cons_of_mem _ h9)
  refine lv_iload_n hx hb d_X_run_0 rfl (lv_at hl 1 rfl) ?_
  refine lv_iconst (v := (1 : Int32)) hx hb d_X_run_1 (by decide) ?_
  refine lv_icmp_lt (tgt := 12) hx hb d_X_run_2 (by decide) (fun c_1 => ?_) (fun c_1 => ?_)
  · exact vx_throwS hx hb hlt (own := "WindowMachine") (cls := "java/lang/IllegalArgumentException") (text := "the number of steps is not 1 to 200") (names := ["java/lang/RuntimeException", "java/lang/Exception"]) (sa := zk 13) (A := A) hown (by decide) (by decide) (ht _ zw_203) (ht _ zw_11) (zz_r13 hZ) (hat_40 ht hY) ho_40 (zz_us hZ) (zz_ss hZ) hS (hl.1.trans hml.symm) d_X_run_12 d_X_run_15 d_X_run_16 d_X_run_18 d_X_run_21 (fun x9 h9 => (hex x9 h9).elim) (Nat.le_of_ble_eq_true rfl) (Nat.le_of_ble_eq_true rfl) (Nat.le_of_ble_eq_true rfl) (Nat.le_of_ble_eq_true rfl) hlocks (zx_fin (u := st) hP hD hS ⟨by simp only [f_runX, if_pos c_1]; decide, by simp only [f_runX, if_pos c_1]⟩ (by simp only [f_runX, if_pos c_1]; rfl)) hS.2.2 (Nat.le_of_ble_eq_true rfl) (Nat.le_of_ble_eq_true rfl)
  refine lv_iload_n hx hb d_X_run_5 rfl (lv_at hl 1 rfl) ?_
  refine lv_sipush (v := (200 : Int32)) hx hb d_X_run_6 (by decide) ?_
  refine lv_icmp_le (tgt := 22) hx hb d_X_run_9 (by decide) (fun c_2 => ?_) (fun c_2 => ?_)
  · refine lv_aload_n hx hb d_X_run_22 rfl (lv_at hl 0 rfl) ?_
    refine va_get (D := D) (ci := 5) (v := .ref (h 0)) (C := "WindowMachine") (T := T_X) (N := 3) hx hb ht zi_X hown hK hP 0 rfl rfl 2 (by decide) (ht _ zw_176) (fun _ h9 => h9) rfl d_X_run_23 ?_
    refine zc_i (w2 := fun _ => wX h c st) (va_runV (As := []) (rest := []) ⟨hx, hb, hml, hown, ht⟩ (mt_P_hasHalted l D h c H.size st.1) (cwV 0 ht (zgV zw_501 zw_502 zw_503 zw_4 zw_504) rfl rfl rfl kd_P_hasHalted ⟨Nat.le_of_ble_eq_true rfl, Nat.le_of_ble_eq_true rfl⟩) ⟨zw_blind zw_tt, va_recv (hK.sub (tys' := [(c 0, .int), (c 1, .int)]) [0, 1] rfl) (hP.sub (ws' := wP h c st.1) [1, 2, 3, 4, 5, 6] rfl) (ci := 2) (q0 := 0) rfl rfl, zw_go (hP.sub (ws' := wP h c st.1) [1, 2, 3, 4, 5, 6] rfl) (hD.sub (ws' := wP h c st.1) [1, 2, 3, 4, 5, 6] (by decide) rfl) (hK.sub (tys' := [(c 0, .int), (c 1, .int)]) [0, 1] rfl) (fun _ _ _ => trivial)⟩ rfl rfl hl.1 rfl (lv_room (Nat.le_of_ble_eq_true rfl)) d_X_run_26 ⟨Nat.le_of_ble_eq_true rfl, Nat.le_of_ble_eq_true rfl⟩) hP hD hS hA [1, 2, 3, 4, 5, 6] [0, 7, 8] [0, 3, 4, 5, 6, 7, 8, 1, 2] rfl rfl (by decide) (by decide) (by decide) (fun _ => rfl) (fun r_3 _ H locs hw hP hD hS => ?_)
    have er_3 := hw
    refine lv_if_eq (tgt := 42) hx hb d_X_run_29 (by decide) (fun c_4 => ?_) (fun c_4 => ?_)
    · refine lv_iconst (v := (0 : Int32)) hx hb d_X_run_42 (by decide) ?_
      refine lv_istore_n (lv' := [(2, .int (0 : Int32)), (0, .ref (h 6)), (1, .int p0)]) hx hb d_X_run_43 rfl hl (by decide) rfl (fun ls hl => ?_)
      refine zloop (X := Nat × SX) (G := fun n9 v9 H locs ls => f_runX st p0 = fl_X_run_44 st p0 n9 v9.1 v9.2 ∧ (v9.1 + n9 = 202 ∧ v9.1 ≤ 200 ∧ okW (v9.2).1) ∧ va_P D vwCl (wX h c v9.2) H ∧ va_D A (wX h c v9.2) ∧ va_S A s.heap H locs ∧ lv_has ls 3 [(0, .ref (h 6)), (1, .int p0), (2, .int (nI v9.1))]) (fr := fun v9 ls => F0 m 44 ls []) (n := 202) (v := (0, st)) (fun n9 ih v9 H locs ls hG => ?_) (fun v9 H locs ls hG => ?_) ⟨(by simp only [f_runX, ← er_3, if_neg c_1, if_pos c_2, if_pos c_4]), ⟨rfl, by dsimp only; omega, hW⟩, hP, hD, hS, (lv_sub hl [1, 2, 0] rfl)⟩
      · obtain ⟨i_5, u_6⟩ := v9
        obtain ⟨hF_7, hI, hP, hD, hS, hl⟩ := hG
        dsimp only at hF_7 hI hP hD hl
        refine lv_iload_n hx hb d_X_run_44 rfl (lv_at hl 2 rfl) ?_
        refine lv_iload_n hx hb d_X_run_45 rfl (lv_at hl 1 rfl) ?_
        refine lv_icmp_ge (tgt := 72) hx hb d_X_run_46 (by decide) (fun c_8 => ?_) (fun c_8 => ?_)
        · refine lv_iload_n hx hb d_X_run_72 rfl (lv_at hl 2 rfl) ?_
          refine W.widen (k := 1) (n := 6) (Nat.le_of_ble_eq_true rfl) (Nat.le_of_ble_eq_true rfl) ?_
          exact vx_ret (zl_i (u := u_6) hx hb hr hlocks hS hP hD (⟨by rw [hF_7]; simp only [fl_X_run_44, if_pos c_8], by rw [hF_7]; simp only [fl_X_run_44, if_pos c_8], by rw [hF_7]; simp only [fl_X_run_44, if_pos c_8]⟩) d_X_run_73)
        refine lv_aload_n hx hb d_X_run_49 rfl (lv_at hl 0 rfl) ?_
        refine va_get (D := D) (ci := 5) (v := .ref (h 0)) (C := "WindowMachine") (T := T_X) (N := 3) hx hb ht zi_X hown hK hP 0 rfl rfl 2 (by decide) (ht _ zw_176) (fun _ h9 => h9) rfl d_X_run_50 ?_
        refine zc_i (w2 := fun _ => wX h c u_6) (va_runV (As := []) (rest := []) ⟨hx, hb, hml, hown, ht⟩ (mt_P_hasHalted l D h c H.size u_6.1) (cwV 0 ht (zgV zw_501 zw_502 zw_503 zw_4 zw_504) rfl rfl rfl kd_P_hasHalted ⟨Nat.le_of_ble_eq_true rfl, Nat.le_of_ble_eq_true rfl⟩) ⟨zw_blind zw_tt, va_recv (hK.sub (tys' := [(c 0, .int), (c 1, .int)]) [0, 1] rfl) (hP.sub (ws' := wP h c u_6.1) [1, 2, 3, 4, 5, 6] rfl) (ci := 2) (q0 := 0) rfl rfl, zw_go (hP.sub (ws' := wP h c u_6.1) [1, 2, 3, 4, 5, 6] rfl) (hD.sub (ws' := wP h c u_6.1) [1, 2, 3, 4, 5, 6] (by decide) rfl) (hK.sub (tys' := [(c 0, .int), (c 1, .int)]) [0, 1] rfl) (fun _ _ _ => trivial)⟩ rfl rfl hl.1 rfl (lv_room (Nat.le_of_ble_eq_true rfl)) d_X_run_53 ⟨Nat.le_of_ble_eq_true rfl, Nat.le_of_ble_eq_true rfl⟩) hP hD hS hA [1, 2, 3, 4, 5, 6] [0, 7, 8] [0, 3, 4, 5, 6, 7, 8, 1, 2] rfl rfl (by decide) (by decide) (by decide) (fun _ => rfl) (fun r_9 _ H locs hw hP hD hS => ?_)
        have er_9 := hw
        refine lv_if_ne (tgt := 72) hx hb d_X_run_56 (by decide) (fun c_10 => ?_) (fun c_10 => ?_)
        · refine lv_iload_n hx hb d_X_run_72 rfl (lv_at hl 2 rfl) ?_
          refine W.widen (k := 1) (n := 6) (Nat.le_of_ble_eq_true rfl) (Nat.le_of_ble_eq_true rfl) ?_
          exact vx_ret (zl_i (u := u_6) hx hb hr hlocks hS hP hD (⟨by rw [hF_7]; simp only [fl_X_run_44, ← er_9, if_neg c_8, if_neg c_10], by rw [hF_7]; simp only [fl_X_run_44, ← er_9, if_neg c_8, if_neg c_10], by rw [hF_7]; simp only [fl_X_run_44, ← er_9, if_neg c_8, if_neg c_10]⟩) d_X_run_73)
        refine lv_aload_n hx hb d_X_run_59 rfl (lv_at hl 0 rfl) ?_
        refine va_get (D := D) (ci := 5) (v := .ref (h 0)) (C := "WindowMachine") (T := T_X) (N := 3) hx hb ht zi_X hown hK hP 0 rfl rfl 2 (by decide) (ht _ zw_176) (fun _ h9 => h9) rfl d_X_run_60 ?_
        refine zc_v (w2 := fun u9 => wX h c (u9, u_6.2)) (va_runV (As := []) (rest := []) ⟨hx, hb, hml, hown, ht⟩ (mt_P_step l D za zk zv h c H.size u_6.1 hI.2.2) (cwV 0 ht (zgV zw_521 zw_522 zw_523 zw_4 zw_524) rfl rfl rfl kd_P_step ⟨Nat.le_of_ble_eq_true rfl, Nat.le_of_ble_eq_true rfl⟩) ⟨zw_blind zz_bl, va_recv (hK.sub (tys' := [(c 0, .int), (c 1, .int)]) [0, 1] rfl) (hP.sub (ws' := wP h c u_6.1) [1, 2, 3, 4, 5, 6] rfl) (ci := 2) (q0 := 0) rfl rfl, zw_go (hP.sub (ws' := wP h c u_6.1) [1, 2, 3, 4, 5, 6] rfl) (hD.sub (ws' := wP h c u_6.1) [1, 2, 3, 4, 5, 6] (by decide) rfl) (hK.sub (tys' := [(c 0, .int), (c 1, .int)]) [0, 1] rfl) (fun U hU hW => zz_go hZ hS (va_free (wc := wP h c u_6.1) hD hS hA [1, 2, 3, 4, 5, 6] rfl) hU hW)⟩ rfl rfl hl.1 rfl (lv_room (Nat.le_of_ble_eq_true rfl)) d_X_run_63 ⟨Nat.le_of_ble_eq_true rfl, Nat.le_of_ble_eq_true rfl⟩) hP hD hS hA [1, 2, 3, 4, 5, 6] [0, 7, 8] [0, 3, 4, 5, 6, 7, 8, 1, 2] rfl rfl (by decide) (by decide) (by decide) (fun _ => rfl) (fun u_11 H locs hw hP hD hS => ?_)
        have eu_11 := hw
        refine lv_iinc (v := (nI i_5) + (1 : Int32)) (lv' := [(2, .int ((nI i_5) + (1 : Int32))), (0, .ref (h 6)), (1, .int p0)]) hx hb d_X_run_66 hl (k := 2) rfl rfl (by decide) rfl (fun ls hl => ?_)
        refine lv_goto (tgt := 44) hx hb d_X_run_69 (by decide) ?_
        have hl : lv_has ls 3 [(0, .ref (h 6)), (1, .int p0), (2, .int (nI (i_5 + 1)))] := by rw [← nI_1 i_5]; exact (lv_sub hl [1, 2, 0] rfl)
        exact ih (i_5 + 1, (u_11, u_6.2)) _ _ _ ⟨by rw [hF_7]; simp only [fl_X_run_44, ← er_9, ← eu_11, if_neg c_8, if_pos c_10], ⟨by omega, ru_k (by omega) (ru_p c_2) c_8, by rw [eu_11]; exact wo_step hI.2.2⟩, hP, hD, hS, hl⟩
      · obtain ⟨i_5, u_6⟩ := v9
        obtain ⟨-, hI, -⟩ := hG
        dsimp only at hI
        exact (by omega)
    exact vx_throwS hx hb hlt (own := "WindowMachine") (cls := "java/lang/IllegalStateException") (text := "the processor has halted") (names := ["java/lang/RuntimeException", "java/lang/Exception"]) (sa := zk 14) (A := A) hown (by decide) (by decide) (ht _ zw_505) (ht _ zw_17) (zz_r14 hZ) (hat_91 ht hY) ho_91 (zz_us hZ) (zz_ss hZ) hS (hl.1.trans hml.symm) d_X_run_32 d_X_run_35 d_X_run_36 d_X_run_38 d_X_run_41 (fun x9 h9 => (hex x9 h9).elim) (Nat.le_of_ble_eq_true rfl) (Nat.le_of_ble_eq_true rfl) (Nat.le_of_ble_eq_true rfl) (Nat.le_of_ble_eq_true rfl) hlocks (zx_fin (u := st) hP hD hS ⟨by simp only [f_runX, ← er_3, if_neg c_1, if_pos c_2, if_neg c_4]; decide, by simp only [f_runX, ← er_3, if_neg c_1, if_pos c_2, if_neg c_4]⟩ (by simp only [f_runX, ← er_3, if_neg c_1, if_pos c_2, if_neg c_4]; rfl)) hS.2.2 (Nat.le_of_ble_eq_true rfl) (Nat.le_of_ble_eq_true rfl)
  exact vx_throwS hx hb hlt (own := "WindowMachine") (cls := "java/lang/IllegalArgumentException") (text := "the number of steps is not 1 to 200") (names := ["java/lang/RuntimeException", "java/lang/Exception"]) (sa := zk 13) (A := A) hown (by decide) (by decide) (ht _ zw_203) (ht _ zw_11) (zz_r13 hZ) (hat_40 ht hY) ho_40 (zz_us hZ) (zz_ss hZ) hS (hl.1.trans hml.symm) d_X_run_12 d_X_run_15 d_X_run_16 d_X_run_18 d_X_run_21 (fun x9 h9 => (hex x9 h9).elim) (Nat.le_of_ble_eq_true rfl) (Nat.le_of_ble_eq_true rfl) (Nat.le_of_ble_eq_true rfl) (Nat.le_of_ble_eq_true rfl) hlocks (zx_fin (u := st) hP hD hS ⟨by simp only [f_runX, if_neg c_1, if_neg c_2]; decide, by simp only [f_runX, if_neg c_1, if_neg c_2]⟩ (by simp only [f_runX, if_neg c_1, if_neg c_2]; rfl)) hS.2.2 (Nat.le_of_ble_eq_true rfl) (Nat.le_of_ble_eq_true rfl)
theorem d_X_start_0 : decode c_X_start 0 = .ok (.aload_n 0, 1) := by decide +kernel
theorem d_X_start_1 : decode c_X_start 1 = .ok (.iload_n 1, 1) := by decide +kernel
theorem d_X_start_2 : decode c_X_start 2 = .ok (.invokevirtual 95, 3) := by decide +kernel
theorem d_X_start_5 : decode c_X_start 5 = .ok (.ifCond .ne 13, 3) := by decide +kernel
theorem d_X_start_8 : decode c_X_start 8 = .ok (.new 36, 3) := by decide +kernel
theorem d_X_start_11 : decode c_X_start 11 = .ok (.dup, 1) := by decide +kernel
theorem d_X_start_12 : decode c_X_start 12 = .ok (.ldc 98, 2) := by decide +kernel
theorem d_X_start_14 : decode c_X_start 14 = .ok (.invokespecial 40, 3) := by decide +kernel
theorem d_X_start_17 : decode c_X_start 17 = .ok (.athrow, 1) := by decide +kernel
theorem d_X_start_18 : decode c_X_start 18 = .ok (.aload_n 0, 1) := by decide +kernel
theorem d_X_start_19 : decode c_X_start 19 = .ok (.getfield 28, 3) := by decide +kernel
theorem d_X_start_22 : decode c_X_start 22 = .ok (.getfield 100, 3) := by decide +kernel
theorem d_X_start_25 : decode c_X_start 25 = .ok (.istore_n 2, 1) := by decide +kernel
theorem d_X_start_26 : decode c_X_start 26 = .ok (.aload_n 0, 1) := by decide +kernel
theorem d_X_start_27 : decode c_X_start 27 = .ok (.getfield 28, 3) := by decide +kernel
theorem d_X_start_30 : decode c_X_start 30 = .ok (.iload_n 1, 1) := by decide +kernel
theorem d_X_start_31 : decode c_X_start 31 = .ok (.invokevirtual 103, 3) := by decide +kernel
theorem d_X_start_34 : decode c_X_start 34 = .ok (.iload_n 2, 1) := by decide +kernel
theorem d_X_start_35 : decode c_X_start 35 = .ok (.ireturn, 1) := by decide +kernel
theorem kd_X_start : (y_X_start).cls = "WindowMachine" ∧ (y_X_start).cls ≠ "java/lang/invoke/MethodHandle" ∧ (y_X_start).cls ≠ "java/lang/invoke/VarHandle" ∧ (parseMethodDescriptor (y_X_start).desc).map (fun d => d.parameters.length) = some 1 := by decide +kernel
def f_startX (st : SX) (p0 : Int32) : Int32 × Int32 × SX := (let r_1 := f_isWordAt p0; (if r_1 = (0 : Int32) then ((1 : Int32), (0 : Int32), st) else (let u_3 := f_reset st.1 p0; ((0 : Int32), st.1.1 12, (u_3, st.2)))))
set_option maxHeartbeats 4000000 in
set_option maxRecDepth 100000 in
theorem mt_X_start (l : Launch) (hlt : l.stackTraces = false) (D : va_G) (za zk zv : Nat → Nat) (h : Nat → Nat) (c : Nat → ClassId) (sz : Nat) (st : SX) (p0 : Int32) : vx_Met l y_X_start w_X_start ({ frames := 6, cells := 1, slots := 6, locals := 86 }) (va_Pc [.ref (h 6), .int p0] (zw_pre D vwCl [(c 0, .int), (c 1, .int), (c 2, .char)] sz (wX h c st) (zy za zk zv (va_A (wX h c st) sz)))) (va_Qi (fun r (u : SX) => (f_startX st p0).1 = (0 : Int32) ∧ r = (f_startX st p0).2.1 ∧ u = (f_startX st p0).2.2) (fun u t => zw_at D vwCl (va_A (wX h c st) sz) ((fun (u : SX) => wX h c u) u) t) (va_A (wX h c st) sz)) (zx D vwCl (fun (u : SX) => ¬ (f_startX st p0).1 = (0 : Int32) ∧ u = (f_startX st p0).2.2) (fun E (_ : SX) => E = exG (f_startX st p0).1) (fun (u : SX) => wX h c u) (va_A (wX h c st) sz)) 1 6 (va_A (wX h c st) sz) := by
  refine zmx (Qf := fun A => va_Qi (fun r (u : SX) => (f_startX st p0).1 = (0 : Int32) ∧ r = (f_startX st p0).2.1 ∧ u = (f_startX st p0).2.2) (fun u t => zw_at D vwCl A ((fun (u : SX) => wX h c u) u) t) A) (Xf := fun A => zx D vwCl (fun (u : SX) => ¬ (f_startX st p0).1 = (0 : Int32) ∧ u = (f_startX st p0).2.2) (fun E (_ : SX) => E = exG (f_startX st p0).1) (fun (u : SX) => wX h c u) A) (Zf := fun A => zy za zk zv A) (cc := c_X_start) (nL := 3) (ret := (some .int)) (by decide) rfl (Nat.le_of_ble_eq_true rfl) ?_
  intro p e s m below meth c9 A H locs ls hx hb hml hown hts hr hlocks hA hK hP hD hS hZ hl hex
  have hY := hZ
  have hZ := hZ.1
  have hl : lv_has ls 3 [(0, .ref (h 6)), (1, .int p0)] := hl
  have ht : ∀ w9 ∈ zT, w9.before _ s = true := fun w9 h9 => hts w9 (List.mem_cons_of_mem _ h9)
  refine lv_aload_n hx hb d_X_start_0 rfl (lv_at hl 0 rfl) ?_
  refine lv_iload_n hx hb d_X_start_1 rfl (lv_at hl 1 rfl) ?_
  refine zc_i (w2 := fun _ => wX h c st) (va_runV (As := [.int p0]) (rest := []) ⟨hx, hb, hml, hown, ht⟩ (mt_X_isWordAt l D h c H.size st p0) (cwV 1 ht (zgV zw_455 zw_457 zs_21 zw_1 zw_458) rfl rfl rfl kd_X_isWordAt ⟨Nat.le_of_ble_eq_true rfl, Nat.le_of_ble_eq_true rfl⟩) ⟨zw_blind zw_tt, va_recv (hK.sub (tys' := [(c 0, .int), (c 1, .int), (c 2, .char)]) [0, 1, 2] rfl) (hP.sub (ws' := wX h c st) [0, 1, 2, 3, 4, 5, 6, 7, 8] rfl) (ci := 5) (q0 := 0) rfl rfl, zw_go (hP.sub (ws' := wX h c st) [0, 1, 2, 3, 4, 5, 6, 7, 8] rfl) (hD.sub (ws' := wX h c st) [0, 1, 2, 3, 4, 5, 6, 7, 8] (by decide) rfl) (hK.sub (tys' := [(c 0, .int), (c 1, .int), (c 2, .char)]) [0, 1, 2] rfl) (fun _ _ _ => trivial)⟩ rfl rfl hl.1 rfl (lv_room (Nat.le_of_ble_eq_true rfl)) d_X_start_2 ⟨Nat.le_of_ble_eq_true rfl, Nat.le_of_ble_eq_true rfl⟩) hP hD hS hA [0, 1, 2, 3, 4, 5, 6, 7, 8] [] [0, 1, 2, 3, 4, 5, 6, 7, 8] rfl rfl (by decide) (by decide) (by decide) (fun _ => rfl) (fun r_1 _ H locs hw hP hD hS => ?_)
  have er_1 := hw
  refine lv_if_ne (tgt := 18) hx hb d_X_start_5 (by decide) (fun c_2 => ?_) (fun c_2 => ?_)
  · refine lv_aload_n hx hb d_X_start_18 rfl (lv_at hl 0 rfl) ?_
    refine va_get (D := D) (ci := 5) (v := .ref (h 0)) (C := "WindowMachine") (T := T_X) (N := 3) hx hb ht zi_X hown hK hP 0 rfl rfl 2 (by decide) (ht _ zw_176) (fun _ h9 => h9) rfl d_X_start_19 ?_
    refine va_getN (D := D) (ci := 2) (v := .int (st.1.1 12)) (C := "WindowMachine$Processor") (T := T_P) (N := 18) hx hb ht zi_P hown hK hP 1 rfl rfl 15 (by decide) (va_Nw.use rfl (zz_n134 hZ)) (fun _ h9 => h9) rfl d_X_start_22 ?_
    refine lv_istore_n (lv' := [(2, .int (st.1.1 12)), (0, .ref (h 6)), (1, .int p0)]) hx hb d_X_start_25 rfl hl (by decide) rfl (fun ls hl => ?_)
    refine lv_aload_n hx hb d_X_start_26 rfl (lv_at hl 1 rfl) ?_
    refine va_get (D := D) (ci := 5) (v := .ref (h 0)) (C := "WindowMachine") (T := T_X) (N := 3) hx hb ht zi_X hown hK hP 0 rfl rfl 2 (by decide) (ht _ zw_176) (fun _ h9 => h9) rfl d_X_start_27 ?_
    refine lv_iload_n hx hb d_X_start_30 rfl (lv_at hl 2 rfl) ?_
    refine zc_v (w2 := fun u9 => wX h c (u9, st.2)) (va_runV (As := [.int p0]) (rest := []) ⟨hx, hb, hml, hown, ht⟩ (mt_P_reset l D h c H.size st.1 p0) (cwV 1 ht (zgV zw_711 zw_101 zw_102 zw_4 zw_103) rfl rfl rfl kd_P_reset ⟨Nat.le_of_ble_eq_true rfl, Nat.le_of_ble_eq_true rfl⟩) ⟨zw_blind zw_tt, va_recv (hK.sub (tys' := [(c 0, .int), (c 1, .int)]) [0, 1] rfl) (hP.sub (ws' := wP h c st.1) [1, 2, 3, 4, 5, 6] rfl) (ci := 2) (q0 := 0) rfl rfl, zw_go (hP.sub (ws' := wP h c st.1) [1, 2, 3, 4, 5, 6] rfl) (hD.sub (ws' := wP h c st.1) [1, 2, 3, 4, 5, 6] (by decide) rfl) (hK.sub (tys' := [(c 0, .int), (c 1, .int)]) [0, 1] rfl) (fun _ _ _ => trivial)⟩ rfl rfl hl.1 rfl (lv_room (Nat.le_of_ble_eq_true rfl)) d_X_start_31 ⟨Nat.le_of_ble_eq_true rfl, Nat.le_of_ble_eq_true rfl⟩) hP hD hS hA [1, 2, 3, 4, 5, 6] [0, 7, 8] [0, 3, 4, 5, 6, 7, 8, 1, 2] rfl rfl (by decide) (by decide) (by decide) (fun _ => rfl) (fun u_3 H locs hw hP hD hS => ?_)
    have eu_3 := hw
    refine lv_iload_n hx hb d_X_start_34 rfl (lv_at hl 0 rfl) ?_
    refine W.widen (k := 1) (n := 6) (Nat.le_of_ble_eq_true rfl) (Nat.le_of_ble_eq_true rfl) ?_
    exact vx_ret (zl_i (u := (u_3, st.2)) hx hb hr hlocks hS hP hD (⟨by simp only [f_startX, ← er_1, ← eu_3, if_neg c_2], by simp only [f_startX, ← er_1, ← eu_3, if_neg c_2], by simp only [f_startX, ← er_1, ← eu_3, if_neg c_2]⟩) d_X_start_35)
  exact vx_throwS hx hb hlt (own := "WindowMachine") (cls := "java/lang/IllegalArgumentException") (text := "there is no word at this address") (names := ["java/lang/RuntimeException", "java/lang/Exception"]) (sa := zk 12) (A := A) hown (by decide) (by decide) (ht _ zw_203) (ht _ zw_11) (zz_r12 hZ) (hat_40 ht hY) ho_40 (zz_us hZ) (zz_ss hZ) hS (hl.1.trans hml.symm) d_X_start_8 d_X_start_11 d_X_start_12 d_X_start_14 d_X_start_17 (fun x9 h9 => (hex x9 h9).elim) (Nat.le_of_ble_eq_true rfl) (Nat.le_of_ble_eq_true rfl) (Nat.le_of_ble_eq_true rfl) (Nat.le_of_ble_eq_true rfl) hlocks (zx_fin (u := st) hP hD hS ⟨by simp only [f_startX, ← er_1, if_pos c_2]; decide, by simp only [f_startX, ← er_1, if_pos c_2]⟩ (by simp only [f_startX, ← er_1, if_pos c_2]; rfl)) hS.2.2 (Nat.le_of_ble_eq_true rfl) (Nat.le_of_ble_eq_true rfl)
theorem d_X_set_0 : decode c_X_set 0 = .ok (.iload_n 1, 1) := by decide +kernel
theorem d_X_set_1 : decode c_X_set 1 = .ok (.iload_n 2, 1) := by decide +kernel
theorem d_X_set_2 : decode c_X_set 2 = .ok (.invokestatic 106, 3) := by decide +kernel
theorem d_X_set_5 : decode c_X_set 5 = .ok (.aload_n 0, 1) := by decide +kernel
theorem d_X_set_6 : decode c_X_set 6 = .ok (.getfield 28, 3) := by decide +kernel
theorem d_X_set_9 : decode c_X_set 9 = .ok (.getfield 110, 3) := by decide +kernel
theorem d_X_set_12 : decode c_X_set 12 = .ok (.iload_n 1, 1) := by decide +kernel
theorem d_X_set_13 : decode c_X_set 13 = .ok (.iload_n 2, 1) := by decide +kernel
theorem d_X_set_14 : decode c_X_set 14 = .ok (.invokevirtual 114, 3) := by decide +kernel
theorem d_X_set_17 : decode c_X_set 17 = .ok (.istore 4, 2) := by decide +kernel
theorem d_X_set_19 : decode c_X_set 19 = .ok (.aload_n 0, 1) := by decide +kernel
theorem d_X_set_20 : decode c_X_set 20 = .ok (.getfield 28, 3) := by decide +kernel
theorem d_X_set_23 : decode c_X_set 23 = .ok (.getfield 110, 3) := by decide +kernel
theorem d_X_set_26 : decode c_X_set 26 = .ok (.iload_n 1, 1) := by decide +kernel
theorem d_X_set_27 : decode c_X_set 27 = .ok (.iload_n 2, 1) := by decide +kernel
theorem d_X_set_28 : decode c_X_set 28 = .ok (.iload_n 3, 1) := by decide +kernel
theorem d_X_set_29 : decode c_X_set 29 = .ok (.invokevirtual 119, 3) := by decide +kernel
theorem d_X_set_32 : decode c_X_set 32 = .ok (.iload 4, 2) := by decide +kernel
theorem d_X_set_34 : decode c_X_set 34 = .ok (.ireturn, 1) := by decide +kernel
theorem kd_X_set : (y_X_set).cls = "WindowMachine" ∧ (y_X_set).cls ≠ "java/lang/invoke/MethodHandle" ∧ (y_X_set).cls ≠ "java/lang/invoke/VarHandle" ∧ (parseMethodDescriptor (y_X_set).desc).map (fun d => d.parameters.length) = some 3 := by decide +kernel
def f_setX (st : SX) (p0 : Int32) (p1 : Int32) (p2 : Int32) : Int32 × Int32 × SX := (if f_checkRegister p0 p1 = (0 : Int32) then (let r_2 := f_rread st.1.2.2.1 p0 p1; (let u_3 := f_rwrite st.1.2.2.1 p0 p1 p2; ((0 : Int32), r_2, ((st.1.1, st.1.2.1, u_3, st.1.2.2.2), st.2)))) else ((1 : Int32), (0 : Int32), st))
set_option maxHeartbeats 4000000 in
set_option maxRecDepth 100000 in
theorem mt_X_set (l : Launch) (hlt : l.stackTraces = false) (D : va_G) (za zk zv : Nat → Nat) (h : Nat → Nat) (c : Nat → ClassId) (sz : Nat) (st : SX) (p0 : Int32) (p1 : Int32) (p2 : Int32) : vx_Met l y_X_set w_X_set ({ frames := 7, cells := 1, slots := 6, locals := 107 }) (va_Pc [.ref (h 6), .int p0, .int p1, .int p2] (zw_pre D vwCl [(c 0, .int), (c 1, .int), (c 2, .char)] sz (wX h c st) (zy za zk zv (va_A (wX h c st) sz)))) (va_Qi (fun r (u : SX) => (f_setX st p0 p1 p2).1 = (0 : Int32) ∧ r = (f_setX st p0 p1 p2).2.1 ∧ u = (f_setX st p0 p1 p2).2.2) (fun u t => zw_at D vwCl (va_A (wX h c st) sz) ((fun (u : SX) => wX h c u) u) t) (va_A (wX h c st) sz)) (zx D vwCl (fun (u : SX) => ¬ (f_setX st p0 p1 p2).1 = (0 : Int32) ∧ u = (f_setX st p0 p1 p2).2.2) (fun E (_ : SX) => E = exG (f_setX st p0 p1 p2).1) (fun (u : SX) => wX h c u) (va_A (wX h c st) sz)) 1 6 (va_A (wX h c st) sz) := by
  refine zmx (Qf := fun A => va_Qi (fun r (u : SX) => (f_setX st p0 p1 p2).1 = (0 : Int32) ∧ r = (f_setX st p0 p1 p2).2.1 ∧ u = (f_setX st p0 p1 p2).2.2) (fun u t => zw_at D vwCl A ((fun (u : SX) => wX h c u) u) t) A) (Xf := fun A => zx D vwCl (fun (u : SX) => ¬ (f_setX st p0 p1 p2).1 = (0 : Int32) ∧ u = (f_setX st p0 p1 p2).2.2) (fun E (_ : SX) => E = exG (f_setX st p0 p1 p2).1) (fun (u : SX) => wX h c u) A) (Zf := fun A => zy za zk zv A) (cc := c_X_set) (nL := 5) (ret := (some .int)) (by decide) rfl (Nat.le_of_ble_eq_true rfl) ?_
  intro p e s m below meth c9 A H locs ls hx hb hml hown hts hr hlocks hA hK hP hD hS hZ hl hex
  have hY := hZ
  have hZ := hZ.1
  have hl : lv_has ls 5 [(0, .ref (h 6)), (1, .int p0), (2, .int p1), (3, .int p2)] := hl
  have ht : ∀ w9 ∈ zT, w9.before _ s = true := fun w9 h9 => hts w9 (List.mem_cons_of_mem _ h9)
  refine lv_iload_n hx hb d_X_set_0 rfl (lv_at hl 1 rfl) ?_
  refine lv_iload_n hx hb d_X_set_1 rfl (lv_at hl 2 rfl) ?_
  refine zxc_v (w2 := fun _ => wX h c st) (w3 := fun _ => wX h c st) (vx_runS (As := [.int p0, .int p1]) (rest := []) ⟨hx, hb, hml, hown, ht⟩ (mt_X_checkRegister l hlt D za zk zv H.size p0 p1) (cwS 2 ht (zgS zw_719 zw_720 zw_1 zw_721) rfl rfl rfl kd_X_checkRegister ⟨Nat.le_of_ble_eq_true rfl, Nat.le_of_ble_eq_true rfl⟩) ⟨zw_blind zy_bl, zw_go (hP.sub (ws' := []) [] rfl) (hD.sub (ws' := []) [] (by decide) rfl) (hK.sub (tys' := []) [] rfl) (fun U hU hW => zy_go hY hS (va_free (wc := []) hD hS hA [] rfl) hU hW)⟩ rfl rfl hl.1 rfl (lv_room (Nat.le_of_ble_eq_true rfl)) d_X_set_2 ⟨Nat.le_of_ble_eq_true rfl, Nat.le_of_ble_eq_true rfl⟩) hP hD hS hA [] [0, 1, 2, 3, 4, 5, 6, 7, 8] [0, 1, 2, 3, 4, 5, 6, 7, 8] rfl rfl (by decide) (by decide) (by decide) (fun _ => rfl) (fun _ => rfl) hex hlocks (Nat.le_of_ble_eq_true rfl) (Nat.le_of_ble_eq_true rfl) (fun E _ H locs hp hE hP hD hS => zx_at (u := st) hP hD hS ⟨by simp only [f_setX, if_neg hp]; decide, by simp only [f_setX, if_neg hp]⟩ (by rw [hE]; simp only [f_setX, if_neg hp]; rfl)) (fun _ H locs hw_1 hP hD hS => ?_)
  refine lv_aload_n hx hb d_X_set_5 rfl (lv_at hl 0 rfl) ?_
  refine va_get (D := D) (ci := 5) (v := .ref (h 0)) (C := "WindowMachine") (T := T_X) (N := 3) hx hb ht zi_X hown hK hP 0 rfl rfl 2 (by decide) (ht _ zw_176) (fun _ h9 => h9) rfl d_X_set_6 ?_
  refine va_getN (D := D) (ci := 2) (v := .ref (h 3)) (C := "WindowMachine$Processor") (T := T_P) (N := 18) hx hb ht zi_P hown hK hP 1 rfl rfl 1 (by decide) (va_Nw.use rfl (zz_n118 hZ)) (fun _ h9 => h9) rfl d_X_set_9 ?_
  refine lv_iload_n hx hb d_X_set_12 rfl (lv_at hl 1 rfl) ?_
  refine lv_iload_n hx hb d_X_set_13 rfl (lv_at hl 2 rfl) ?_
  refine zc_i (w2 := fun _ => wX h c st) (va_runV (As := [.int p0, .int p1]) (rest := []) ⟨hx, hb, hml, hown, ht⟩ (mt_R_read l D (h 3) (h 4) (c 1) H.size st.1.2.2.1 p0 p1 (cr_w hw_1) (cr_n hw_1)) (cwV 2 ht (zgV zw_723 zw_575 zw_576 zw_5 zw_577) rfl rfl rfl kd_R_read ⟨Nat.le_of_ble_eq_true rfl, Nat.le_of_ble_eq_true rfl⟩) ⟨zw_blind zw_tt, va_recv (hK.sub (tys' := [((c 1), .int)]) [1] rfl) (hP.sub (ws' := wR (h 3) (h 4) (c 1) st.1.2.2.1) [4, 5] rfl) (ci := 4) (q0 := 0) rfl rfl, zw_go (hP.sub (ws' := wR (h 3) (h 4) (c 1) st.1.2.2.1) [4, 5] rfl) (hD.sub (ws' := wR (h 3) (h 4) (c 1) st.1.2.2.1) [4, 5] (by decide) rfl) (hK.sub (tys' := [((c 1), .int)]) [1] rfl) (fun _ _ _ => trivial)⟩ rfl rfl hl.1 rfl (lv_room (Nat.le_of_ble_eq_true rfl)) d_X_set_14 ⟨Nat.le_of_ble_eq_true rfl, Nat.le_of_ble_eq_true rfl⟩) hP hD hS hA [4, 5] [0, 1, 2, 3, 6, 7, 8] [0, 1, 2, 3, 7, 8, 4, 5, 6] rfl rfl (by decide) (by decide) (by decide) (fun _ => rfl) (fun r_2 _ H locs hw hP hD hS => ?_)
  have er_2 := hw
  refine lv_istore (lv' := [(4, .int r_2), (0, .ref (h 6)), (1, .int p0), (2, .int p1), (3, .int p2)]) hx hb d_X_set_17 hl (by decide) rfl (fun ls hl => ?_)
  refine lv_aload_n hx hb d_X_set_19 rfl (lv_at hl 1 rfl) ?_
  refine va_get (D := D) (ci := 5) (v := .ref (h 0)) (C := "WindowMachine") (T := T_X) (N := 3) hx hb ht zi_X hown hK hP 0 rfl rfl 2 (by decide) (ht _ zw_176) (fun _ h9 => h9) rfl d_X_set_20 ?_
  refine va_getN (D := D) (ci := 2) (v := .ref (h 3)) (C := "WindowMachine$Processor") (T := T_P) (N := 18) hx hb ht zi_P hown hK hP 1 rfl rfl 1 (by decide) (va_Nw.use rfl (zz_n118 hZ)) (fun _ h9 => h9) rfl d_X_set_23 ?_
  refine lv_iload_n hx hb d_X_set_26 rfl (lv_at hl 2 rfl) ?_
  refine lv_iload_n hx hb d_X_set_27 rfl (lv_at hl 3 rfl) ?_
  refine lv_iload_n hx hb d_X_set_28 rfl (lv_at hl 4 rfl) ?_
  refine zc_v (w2 := fun u9 => wX h c ((st.1.1, st.1.2.1, u9, st.1.2.2.2), st.2)) (va_runV (As := [.int p0, .int p1, .int p2]) (rest := []) ⟨hx, hb, hml, hown, ht⟩ (mt_R_write l D (h 3) (h 4) (c 1) H.size st.1.2.2.1 p0 p1 p2 (cr_w hw_1) (cr_n hw_1)) (cwV 3 ht (zgV zw_724 zw_554 zw_555 zw_5 zw_556) rfl rfl rfl kd_R_write ⟨Nat.le_of_ble_eq_true rfl, Nat.le_of_ble_eq_true rfl⟩) ⟨zw_blind zw_tt, va_recv (hK.sub (tys' := [((c 1), .int)]) [1] rfl) (hP.sub (ws' := wR (h 3) (h 4) (c 1) st.1.2.2.1) [4, 5] rfl) (ci := 4) (q0 := 0) rfl rfl, zw_go (hP.sub (ws' := wR (h 3) (h 4) (c 1) st.1.2.2.1) [4, 5] rfl) (hD.sub (ws' := wR (h 3) (h 4) (c 1) st.1.2.2.1) [4, 5] (by decide) rfl) (hK.sub (tys' := [((c 1), .int)]) [1] rfl) (fun _ _ _ => trivial)⟩ rfl rfl hl.1 rfl (lv_room (Nat.le_of_ble_eq_true rfl)) d_X_set_29 ⟨Nat.le_of_ble_eq_true rfl, Nat.le_of_ble_eq_true rfl⟩) hP hD hS hA [4, 5] [0, 1, 2, 3, 6, 7, 8] [0, 1, 2, 3, 7, 8, 4, 5, 6] rfl rfl (by decide) (by decide) (by decide) (fun _ => rfl) (fun u_3 H locs hw hP hD hS => ?_)
  have eu_3 := hw
  refine lv_iload hx hb d_X_set_32 (lv_at hl 0 rfl) ?_
  exact vx_ret (zl_i (u := ((st.1.1, st.1.2.1, u_3, st.1.2.2.2), st.2)) hx hb hr hlocks hS hP hD (⟨by simp only [f_setX, ← er_2, ← eu_3, if_pos hw_1], by simp only [f_setX, ← er_2, ← eu_3, if_pos hw_1], by simp only [f_setX, ← er_2, ← eu_3, if_pos hw_1]⟩) d_X_set_34)
theorem d_X_register_0 : decode c_X_register 0 = .ok (.iload_n 1, 1) := by decide +kernel
theorem d_X_register_1 : decode c_X_register 1 = .ok (.iload_n 2, 1) := by decide +kernel
theorem d_X_register_2 : decode c_X_register 2 = .ok (.invokestatic 106, 3) := by decide +kernel
theorem d_X_register_5 : decode c_X_register 5 = .ok (.aload_n 0, 1) := by decide +kernel
theorem d_X_register_6 : decode c_X_register 6 = .ok (.getfield 28, 3) := by decide +kernel
theorem d_X_register_9 : decode c_X_register 9 = .ok (.getfield 110, 3) := by decide +kernel
theorem d_X_register_12 : decode c_X_register 12 = .ok (.iload_n 1, 1) := by decide +kernel
theorem d_X_register_13 : decode c_X_register 13 = .ok (.iload_n 2, 1) := by decide +kernel
theorem d_X_register_14 : decode c_X_register 14 = .ok (.invokevirtual 114, 3) := by decide +kernel
theorem d_X_register_17 : decode c_X_register 17 = .ok (.ireturn, 1) := by decide +kernel
theorem kd_X_register : (y_X_register).cls = "WindowMachine" ∧ (y_X_register).cls ≠ "java/lang/invoke/MethodHandle" ∧ (y_X_register).cls ≠ "java/lang/invoke/VarHandle" ∧ (parseMethodDescriptor (y_X_register).desc).map (fun d => d.parameters.length) = some 2 := by decide +kernel
def f_registerX (st : SX) (p0 : Int32) (p1 : Int32) : Int32 × Int32 × SX := (if f_checkRegister p0 p1 = (0 : Int32) then (let r_2 := f_rread st.1.2.2.1 p0 p1; ((0 : Int32), r_2, st)) else ((1 : Int32), (0 : Int32), st))
set_option maxHeartbeats 4000000 in
set_option maxRecDepth 100000 in
theorem mt_X_register (l : Launch) (hlt : l.stackTraces = false) (D : va_G) (za zk zv : Nat → Nat) (h : Nat → Nat) (c : Nat → ClassId) (sz : Nat) (st : SX) (p0 : Int32) (p1 : Int32) : vx_Met l y_X_register w_X_register ({ frames := 7, cells := 1, slots := 6, locals := 107 }) (va_Pc [.ref (h 6), .int p0, .int p1] (zw_pre D vwCl [(c 0, .int), (c 1, .int), (c 2, .char)] sz (wX h c st) (zy za zk zv (va_A (wX h c st) sz)))) (va_Qi (fun r (u : SX) => (f_registerX st p0 p1).1 = (0 : Int32) ∧ r = (f_registerX st p0 p1).2.1 ∧ u = (f_registerX st p0 p1).2.2) (fun u t => zw_at D vwCl (va_A (wX h c st) sz) ((fun (u : SX) => wX h c u) u) t) (va_A (wX h c st) sz)) (zx D vwCl (fun (u : SX) => ¬ (f_registerX st p0 p1).1 = (0 : Int32) ∧ u = (f_registerX st p0 p1).2.2) (fun E (_ : SX) => E = exG (f_registerX st p0 p1).1) (fun (u : SX) => wX h c u) (va_A (wX h c st) sz)) 1 6 (va_A (wX h c st) sz) := by
  refine zmx (Qf := fun A => va_Qi (fun r (u : SX) => (f_registerX st p0 p1).1 = (0 : Int32) ∧ r = (f_registerX st p0 p1).2.1 ∧ u = (f_registerX st p0 p1).2.2) (fun u t => zw_at D vwCl A ((fun (u : SX) => wX h c u) u) t) A) (Xf := fun A => zx D vwCl (fun (u : SX) => ¬ (f_registerX st p0 p1).1 = (0 : Int32) ∧ u = (f_registerX st p0 p1).2.2) (fun E (_ : SX) => E = exG (f_registerX st p0 p1).1) (fun (u : SX) => wX h c u) A) (Zf := fun A => zy za zk zv A) (cc := c_X_register) (nL := 3) (ret := (some .int)) (by decide) rfl (Nat.le_of_ble_eq_true rfl) ?_
  intro p e s m below meth c9 A H locs ls hx hb hml hown hts hr hlocks hA hK hP hD hS hZ hl hex
  have hY := hZ
  have hZ := hZ.1
  have hl : lv_has ls 3 [(0, .ref (h 6)), (1, .int p0), (2, .int p1)] := hl
  have ht : ∀ w9 ∈ zT, w9.before _ s = true := fun w9 h9 => hts w9 (List.mem_cons_of_mem _ h9)
  refine lv_iload_n hx hb d_X_register_0 rfl (lv_at hl 1 rfl) ?_
  refine lv_iload_n hx hb d_X_register_1 rfl (lv_at hl 2 rfl) ?_
  refine zxc_v (w2 := fun _ => wX h c st) (w3 := fun _ => wX h c st) (vx_runS (As := [.int p0, .int p1]) (rest := []) ⟨hx, hb, hml, hown, ht⟩ (mt_X_checkRegister l hlt D za zk zv H.size p0 p1) (cwS 2 ht (zgS zw_719 zw_720 zw_1 zw_721) rfl rfl rfl kd_X_checkRegister ⟨Nat.le_of_ble_eq_true rfl, Nat.le_of_ble_eq_true rfl⟩) ⟨zw_blind zy_bl, zw_go (hP.sub (ws' := []) [] rfl) (hD.sub (ws' := []) [] (by decide) rfl) (hK.sub (tys' := []) [] rfl) (fun U hU hW => zy_go hY hS (va_free (wc := []) hD hS hA [] rfl) hU hW)⟩ rfl rfl hl.1 rfl (lv_room (Nat.le_of_ble_eq_true rfl)) d_X_register_2 ⟨Nat.le_of_ble_eq_true rfl, Nat.le_of_ble_eq_true rfl⟩) hP hD hS hA [] [0, 1, 2, 3, 4, 5, 6, 7, 8] [0, 1, 2, 3, 4, 5, 6, 7, 8] rfl rfl (by decide) (by decide) (by decide) (fun _ => rfl) (fun _ => rfl) hex hlocks (Nat.le_of_ble_eq_true rfl) (Nat.le_of_ble_eq_true rfl) (fun E _ H locs hp hE hP hD hS => zx_at (u := st) hP hD hS ⟨by simp only [f_registerX, if_neg hp]; decide, by simp only [f_registerX, if_neg hp]⟩ (by rw [hE]; simp only [f_registerX, if_neg hp]; rfl)) (fun _ H locs hw_1 hP hD hS => ?_)
  refine lv_aload_n hx hb d_X_register_5 rfl (lv_at hl 0 rfl) ?_
  refine va_get (D := D) (ci := 5) (v := .ref (h 0)) (C := "WindowMachine") (T := T_X) (N := 3) hx hb ht zi_X hown hK hP 0 rfl rfl 2 (by decide) (ht _ zw_176) (fun _ h9 => h9) rfl d_X_register_6 ?_
  refine va_getN (D := D) (ci := 2) (v := .ref (h 3)) (C := "WindowMachine$Processor") (T := T_P) (N := 18) hx hb ht zi_P hown hK hP 1 rfl rfl 1 (by decide) (va_Nw.use rfl (zz_n118 hZ)) (fun _ h9 => h9) rfl d_X_register_9 ?_
  refine lv_iload_n hx hb d_X_register_12 rfl (lv_at hl 1 rfl) ?_
  refine lv_iload_n hx hb d_X_register_13 rfl (lv_at hl 2 rfl) ?_
  refine zc_i (w2 := fun _ => wX h c st) (va_runV (As := [.int p0, .int p1]) (rest := []) ⟨hx, hb, hml, hown, ht⟩ (mt_R_read l D (h 3) (h 4) (c 1) H.size st.1.2.2.1 p0 p1 (cr_w hw_1) (cr_n hw_1)) (cwV 2 ht (zgV zw_723 zw_575 zw_576 zw_5 zw_577) rfl rfl rfl kd_R_read ⟨Nat.le_of_ble_eq_true rfl, Nat.le_of_ble_eq_true rfl⟩) ⟨zw_blind zw_tt, va_recv (hK.sub (tys' := [((c 1), .int)]) [1] rfl) (hP.sub (ws' := wR (h 3) (h 4) (c 1) st.1.2.2.1) [4, 5] rfl) (ci := 4) (q0 := 0) rfl rfl, zw_go (hP.sub (ws' := wR (h 3) (h 4) (c 1) st.1.2.2.1) [4, 5] rfl) (hD.sub (ws' := wR (h 3) (h 4) (c 1) st.1.2.2.1) [4, 5] (by decide) rfl) (hK.sub (tys' := [((c 1), .int)]) [1] rfl) (fun _ _ _ => trivial)⟩ rfl rfl hl.1 rfl (lv_room (Nat.le_of_ble_eq_true rfl)) d_X_register_14 ⟨Nat.le_of_ble_eq_true rfl, Nat.le_of_ble_eq_true rfl⟩) hP hD hS hA [4, 5] [0, 1, 2, 3, 6, 7, 8] [0, 1, 2, 3, 7, 8, 4, 5, 6] rfl rfl (by decide) (by decide) (by decide) (fun _ => rfl) (fun r_2 _ H locs hw hP hD hS => ?_)
  have er_2 := hw
  exact vx_ret (zl_i (u := st) hx hb hr hlocks hS hP hD (⟨by simp only [f_registerX, ← er_2, if_pos hw_1], by simp only [f_registerX, ← er_2, if_pos hw_1], by simp only [f_registerX, ← er_2, if_pos hw_1]⟩) d_X_register_17)
theorem d_X_state_0 : decode c_X_state 0 = .ok (.iload_n 1, 1) := by decide +kernel
theorem d_X_state_1 : decode c_X_state 1 = .ok (.ifCond .lt 9, 3) := by decide +kernel
theorem d_X_state_4 : decode c_X_state 4 = .ok (.iload_n 1, 1) := by decide +kernel
theorem d_X_state_5 : decode c_X_state 5 = .ok (.bipush 11, 2) := by decide +kernel
theorem d_X_state_7 : decode c_X_state 7 = .ok (.if_icmp .le 13, 3) := by decide +kernel
theorem d_X_state_10 : decode c_X_state 10 = .ok (.new 36, 3) := by decide +kernel
theorem d_X_state_13 : decode c_X_state 13 = .ok (.dup, 1) := by decide +kernel
theorem d_X_state_14 : decode c_X_state 14 = .ok (.ldc 122, 2) := by decide +kernel
theorem d_X_state_16 : decode c_X_state 16 = .ok (.invokespecial 40, 3) := by decide +kernel
theorem d_X_state_19 : decode c_X_state 19 = .ok (.athrow, 1) := by decide +kernel
theorem d_X_state_20 : decode c_X_state 20 = .ok (.aload_n 0, 1) := by decide +kernel
theorem d_X_state_21 : decode c_X_state 21 = .ok (.getfield 28, 3) := by decide +kernel
theorem d_X_state_24 : decode c_X_state 24 = .ok (.iload_n 1, 1) := by decide +kernel
theorem d_X_state_25 : decode c_X_state 25 = .ok (.invokevirtual 124, 3) := by decide +kernel
theorem d_X_state_28 : decode c_X_state 28 = .ok (.ireturn, 1) := by decide +kernel
theorem kd_X_state : (y_X_state).cls = "WindowMachine" ∧ (y_X_state).cls ≠ "java/lang/invoke/MethodHandle" ∧ (y_X_state).cls ≠ "java/lang/invoke/VarHandle" ∧ (parseMethodDescriptor (y_X_state).desc).map (fun d => d.parameters.length) = some 1 := by decide +kernel
def f_stateX (st : SX) (p0 : Int32) : Int32 × Int32 × SX := (if p0 < (0 : Int32) then ((1 : Int32), (0 : Int32), st) else (if p0 ≤ (11 : Int32) then (let r_3 := f_view st.1 p0; ((0 : Int32), r_3, st)) else ((1 : Int32), (0 : Int32), st)))
set_option maxHeartbeats 4000000 in
set_option maxRecDepth 100000 in
theorem mt_X_state (l : Launch) (hlt : l.stackTraces = false) (D : va_G) (za zk zv : Nat → Nat) (h : Nat → Nat) (c : Nat → ClassId) (sz : Nat) (st : SX) (p0 : Int32) : vx_Met l y_X_state w_X_state ({ frames := 6, cells := 1, slots := 6, locals := 86 }) (va_Pc [.ref (h 6), .int p0] (zw_pre D vwCl [(c 0, .int), (c 1, .int), (c 2, .char)] sz (wX h c st) (zy za zk zv (va_A (wX h c st) sz)))) (va_Qi (fun r (u : SX) => (f_stateX st p0).1 = (0 : Int32) ∧ r = (f_stateX st p0).2.1 ∧ u = (f_stateX st p0).2.2) (fun u t => zw_at D vwCl (va_A (wX h c st) sz) ((fun (u : SX) => wX h c u) u) t) (va_A (wX h c st) sz)) (zx D vwCl (fun (u : SX) => ¬ (f_stateX st p0).1 = (0 : Int32) ∧ u = (f_stateX st p0).2.2) (fun E (_ : SX) => E = exG (f_stateX st p0).1) (fun (u : SX) => wX h c u) (va_A (wX h c st) sz)) 1 6 (va_A (wX h c st) sz) := by
  refine zmx (Qf := fun A => va_Qi (fun r (u : SX) => (f_stateX st p0).1 = (0 : Int32) ∧ r = (f_stateX st p0).2.1 ∧ u = (f_stateX st p0).2.2) (fun u t => zw_at D vwCl A ((fun (u : SX) => wX h c u) u) t) A) (Xf := fun A => zx D vwCl (fun (u : SX) => ¬ (f_stateX st p0).1 = (0 : Int32) ∧ u = (f_stateX st p0).2.2) (fun E (_ : SX) => E = exG (f_stateX st p0).1) (fun (u : SX) => wX h c u) A) (Zf := fun A => zy za zk zv A) (cc := c_X_state) (nL := 2) (ret := (some .int)) (by decide) rfl (Nat.le_of_ble_eq_true rfl) ?_
  intro p e s m below meth c9 A H locs ls hx hb hml hown hts hr hlocks hA hK hP hD hS hZ hl hex
  have hY := hZ
  have hZ := hZ.1
  have hl : lv_has ls 2 [(0, .ref (h 6)), (1, .int p0)] := hl
  have ht : ∀ w9 ∈ zT, w9.before _ s = true := fun w9 h9 => hts w9 (List.mem_cons_of_mem _ h9)
  refine lv_iload_n hx hb d_X_state_0 rfl (lv_at hl 1 rfl) ?_
  refine lv_if_lt (tgt := 10) hx hb d_X_state_1 (by decide) (fun c_1 => ?_) (fun c_1 => ?_)
  · exact vx_throwS hx hb hlt (own := "WindowMachine") (cls := "java/lang/IllegalArgumentException") (text := "the state has no such part") (names := ["java/lang/RuntimeException", "java/lang/Exception"]) (sa := zk 16) (A := A) hown (by decide) (by decide) (ht _ zw_203) (ht _ zw_11) (zz_r16 hZ) (hat_40 ht hY) ho_40 (zz_us hZ) (zz_ss hZ) hS (hl.1.trans hml.symm) d_X_state_10 d_X_state_13 d_X_state_14 d_X_state_16 d_X_state_19 (fun x9 h9 => (hex x9 h9).elim) (Nat.le_of_ble_eq_true rfl) (Nat.le_of_ble_eq_true rfl) (Nat.le_of_ble_eq_true rfl) (Nat.le_of_ble_eq_true rfl) hlocks (zx_fin (u := st) hP hD hS ⟨by simp only [f_stateX, if_pos c_1]; decide, by simp only [f_stateX, if_pos c_1]⟩ (by simp only [f_stateX, if_pos c_1]; rfl)) hS.2.2 (Nat.le_of_ble_eq_true rfl) (Nat.le_of_ble_eq_true rfl)
  refine lv_iload_n hx hb d_X_state_4 rfl (lv_at hl 1 rfl) ?_
  refine lv_bipush (v := (11 : Int32)) hx hb d_X_state_5 (by decide) ?_
  refine lv_icmp_le (tgt := 20) hx hb d_X_state_7 (by decide) (fun c_2 => ?_) (fun c_2 => ?_)
  · refine lv_aload_n hx hb d_X_state_20 rfl (lv_at hl 0 rfl) ?_
    refine va_get (D := D) (ci := 5) (v := .ref (h 0)) (C := "WindowMachine") (T := T_X) (N := 3) hx hb ht zi_X hown hK hP 0 rfl rfl 2 (by decide) (ht _ zw_176) (fun _ h9 => h9) rfl d_X_state_21 ?_
    refine lv_iload_n hx hb d_X_state_24 rfl (lv_at hl 1 rfl) ?_
    refine zc_i (w2 := fun _ => wX h c st) (va_runV (As := [.int p0]) (rest := []) ⟨hx, hb, hml, hown, ht⟩ (mt_P_view l D h c H.size st.1 p0) (cwV 1 ht (zgV zw_740 zw_741 zw_742 zw_4 zw_743) rfl rfl rfl kd_P_view ⟨Nat.le_of_ble_eq_true rfl, Nat.le_of_ble_eq_true rfl⟩) ⟨zw_blind zw_tt, va_recv (hK.sub (tys' := [(c 0, .int), (c 1, .int)]) [0, 1] rfl) (hP.sub (ws' := wP h c st.1) [1, 2, 3, 4, 5, 6] rfl) (ci := 2) (q0 := 0) rfl rfl, zw_go (hP.sub (ws' := wP h c st.1) [1, 2, 3, 4, 5, 6] rfl) (hD.sub (ws' := wP h c st.1) [1, 2, 3, 4, 5, 6] (by decide) rfl) (hK.sub (tys' := [(c 0, .int), (c 1, .int)]) [0, 1] rfl) (fun _ _ _ => trivial)⟩ rfl rfl hl.1 rfl (lv_room (Nat.le_of_ble_eq_true rfl)) d_X_state_25 ⟨Nat.le_of_ble_eq_true rfl, Nat.le_of_ble_eq_true rfl⟩) hP hD hS hA [1, 2, 3, 4, 5, 6] [0, 7, 8] [0, 3, 4, 5, 6, 7, 8, 1, 2] rfl rfl (by decide) (by decide) (by decide) (fun _ => rfl) (fun r_3 _ H locs hw hP hD hS => ?_)
    have er_3 := hw
    refine W.widen (k := 1) (n := 6) (Nat.le_of_ble_eq_true rfl) (Nat.le_of_ble_eq_true rfl) ?_
    exact vx_ret (zl_i (u := st) hx hb hr hlocks hS hP hD (⟨by simp only [f_stateX, ← er_3, if_neg c_1, if_pos c_2], by simp only [f_stateX, ← er_3, if_neg c_1, if_pos c_2], by simp only [f_stateX, ← er_3, if_neg c_1, if_pos c_2]⟩) d_X_state_28)
  exact vx_throwS hx hb hlt (own := "WindowMachine") (cls := "java/lang/IllegalArgumentException") (text := "the state has no such part") (names := ["java/lang/RuntimeException", "java/lang/Exception"]) (sa := zk 16) (A := A) hown (by decide) (by decide) (ht _ zw_203) (ht _ zw_11) (zz_r16 hZ) (hat_40 ht hY) ho_40 (zz_us hZ) (zz_ss hZ) hS (hl.1.trans hml.symm) d_X_state_10 d_X_state_13 d_X_state_14 d_X_state_16 d_X_state_19 (fun x9 h9 => (hex x9 h9).elim) (Nat.le_of_ble_eq_true rfl) (Nat.le_of_ble_eq_true rfl) (Nat.le_of_ble_eq_true rfl) (Nat.le_of_ble_eq_true rfl) hlocks (zx_fin (u := st) hP hD hS ⟨by simp only [f_stateX, if_neg c_1, if_neg c_2]; decide, by simp only [f_stateX, if_neg c_1, if_neg c_2]⟩ (by simp only [f_stateX, if_neg c_1, if_neg c_2]; rfl)) hS.2.2 (Nat.le_of_ble_eq_true rfl) (Nat.le_of_ble_eq_true rfl)
theorem d_X_mode_0 : decode c_X_mode 0 = .ok (.iload_n 1, 1) := by decide +kernel
theorem d_X_mode_1 : decode c_X_mode 1 = .ok (.ifCond .lt 31, 3) := by decide +kernel
theorem d_X_mode_4 : decode c_X_mode 4 = .ok (.iload_n 1, 1) := by decide +kernel
theorem d_X_mode_5 : decode c_X_mode 5 = .ok (.bipush 15, 2) := by decide +kernel
theorem d_X_mode_7 : decode c_X_mode 7 = .ok (.if_icmp .gt 25, 3) := by decide +kernel
theorem d_X_mode_10 : decode c_X_mode 10 = .ok (.iload_n 3, 1) := by decide +kernel
theorem d_X_mode_11 : decode c_X_mode 11 = .ok (.ifCond .lt 21, 3) := by decide +kernel
theorem d_X_mode_14 : decode c_X_mode 14 = .ok (.iload_n 3, 1) := by decide +kernel
theorem d_X_mode_15 : decode c_X_mode 15 = .ok (.bipush 15, 2) := by decide +kernel
theorem d_X_mode_17 : decode c_X_mode 17 = .ok (.if_icmp .gt 15, 3) := by decide +kernel
theorem d_X_mode_20 : decode c_X_mode 20 = .ok (.iload 5, 2) := by decide +kernel
theorem d_X_mode_22 : decode c_X_mode 22 = .ok (.ifCond .lt 10, 3) := by decide +kernel
theorem d_X_mode_25 : decode c_X_mode 25 = .ok (.iload 5, 2) := by decide +kernel
theorem d_X_mode_27 : decode c_X_mode 27 = .ok (.bipush 7, 2) := by decide +kernel
theorem d_X_mode_29 : decode c_X_mode 29 = .ok (.if_icmp .le 13, 3) := by decide +kernel
theorem d_X_mode_32 : decode c_X_mode 32 = .ok (.new 36, 3) := by decide +kernel
theorem d_X_mode_35 : decode c_X_mode 35 = .ok (.dup, 1) := by decide +kernel
theorem d_X_mode_36 : decode c_X_mode 36 = .ok (.ldc 128, 2) := by decide +kernel
theorem d_X_mode_38 : decode c_X_mode 38 = .ok (.invokespecial 40, 3) := by decide +kernel
theorem d_X_mode_41 : decode c_X_mode 41 = .ok (.athrow, 1) := by decide +kernel
theorem d_X_mode_42 : decode c_X_mode 42 = .ok (.aload_n 0, 1) := by decide +kernel
theorem d_X_mode_43 : decode c_X_mode 43 = .ok (.getfield 28, 3) := by decide +kernel
theorem d_X_mode_46 : decode c_X_mode 46 = .ok (.iload_n 1, 1) := by decide +kernel
theorem d_X_mode_47 : decode c_X_mode 47 = .ok (.iload_n 2, 1) := by decide +kernel
theorem d_X_mode_48 : decode c_X_mode 48 = .ok (.iload_n 3, 1) := by decide +kernel
theorem d_X_mode_49 : decode c_X_mode 49 = .ok (.iload 4, 2) := by decide +kernel
theorem d_X_mode_51 : decode c_X_mode 51 = .ok (.iload 5, 2) := by decide +kernel
theorem d_X_mode_53 : decode c_X_mode 53 = .ok (.invokevirtual 130, 3) := by decide +kernel
theorem d_X_mode_56 : decode c_X_mode 56 = .ok (.aload_n 0, 1) := by decide +kernel
theorem d_X_mode_57 : decode c_X_mode 57 = .ok (.getfield 28, 3) := by decide +kernel
theorem d_X_mode_60 : decode c_X_mode 60 = .ok (.getfield 134, 3) := by decide +kernel
theorem d_X_mode_63 : decode c_X_mode 63 = .ok (.ireturn, 1) := by decide +kernel
theorem kd_X_mode : (y_X_mode).cls = "WindowMachine" ∧ (y_X_mode).cls ≠ "java/lang/invoke/MethodHandle" ∧ (y_X_mode).cls ≠ "java/lang/invoke/VarHandle" ∧ (parseMethodDescriptor (y_X_mode).desc).map (fun d => d.parameters.length) = some 5 := by decide +kernel
def f_modeX (st : SX) (p0 : Int32) (p1 : Int32) (p2 : Int32) (p3 : Int32) (p4 : Int32) : Int32 × Int32 × SX := (if p0 < (0 : Int32) then ((1 : Int32), (0 : Int32), st) else (if (15 : Int32) < p0 then ((1 : Int32), (0 : Int32), st) else (if p2 < (0 : Int32) then ((1 : Int32), (0 : Int32), st) else (if (15 : Int32) < p2 then ((1 : Int32), (0 : Int32), st) else (if p4 < (0 : Int32) then ((1 : Int32), (0 : Int32), st) else (if p4 ≤ (7 : Int32) then (let u_7 := f_adopt st.1 p0 p1 p2 p3 p4; ((0 : Int32), u_7.1 0, (u_7, st.2))) else ((1 : Int32), (0 : Int32), st)))))))
set_option maxHeartbeats 4000000 in
set_option maxRecDepth 100000 in
theorem mt_X_mode (l : Launch) (hlt : l.stackTraces = false) (D : va_G) (za zk zv : Nat → Nat) (h : Nat → Nat) (c : Nat → ClassId) (sz : Nat) (st : SX) (p0 : Int32) (p1 : Int32) (p2 : Int32) (p3 : Int32) (p4 : Int32) : vx_Met l y_X_mode w_X_mode ({ frames := 6, cells := 1, slots := 6, locals := 86 }) (va_Pc [.ref (h 6), .int p0, .int p1, .int p2, .int p3, .int p4] (zw_pre D vwCl [(c 0, .int), (c 1, .int), (c 2, .char)] sz (wX h c st) (zy za zk zv (va_A (wX h c st) sz)))) (va_Qi (fun r (u : SX) => (f_modeX st p0 p1 p2 p3 p4).1 = (0 : Int32) ∧ r = (f_modeX st p0 p1 p2 p3 p4).2.1 ∧ u = (f_modeX st p0 p1 p2 p3 p4).2.2) (fun u t => zw_at D vwCl (va_A (wX h c st) sz) ((fun (u : SX) => wX h c u) u) t) (va_A (wX h c st) sz)) (zx D vwCl (fun (u : SX) => ¬ (f_modeX st p0 p1 p2 p3 p4).1 = (0 : Int32) ∧ u = (f_modeX st p0 p1 p2 p3 p4).2.2) (fun E (_ : SX) => E = exG (f_modeX st p0 p1 p2 p3 p4).1) (fun (u : SX) => wX h c u) (va_A (wX h c st) sz)) 1 6 (va_A (wX h c st) sz) := by
  refine zmx (Qf := fun A => va_Qi (fun r (u : SX) => (f_modeX st p0 p1 p2 p3 p4).1 = (0 : Int32) ∧ r = (f_modeX st p0 p1 p2 p3 p4).2.1 ∧ u = (f_modeX st p0 p1 p2 p3 p4).2.2) (fun u t => zw_at D vwCl A ((fun (u : SX) => wX h c u) u) t) A) (Xf := fun A => zx D vwCl (fun (u : SX) => ¬ (f_modeX st p0 p1 p2 p3 p4).1 = (0 : Int32) ∧ u = (f_modeX st p0 p1 p2 p3 p4).2.2) (fun E (_ : SX) => E = exG (f_modeX st p0 p1 p2 p3 p4).1) (fun (u : SX) => wX h c u) A) (Zf := fun A => zy za zk zv A) (cc := c_X_mode) (nL := 6) (ret := (some .int)) (by decide) rfl (Nat.le_of_ble_eq_true rfl) ?_
  intro p e s m below meth c9 A H locs ls hx hb hml hown hts hr hlocks hA hK hP hD hS hZ hl hex
  have hY := hZ
  have hZ := hZ.1
  have hl : lv_has ls 6 [(0, .ref (h 6)), (1, .int p0), (2, .int p1), (3, .int p2), (4, .int p3), (5, .int p4)] := hl
  have ht : ∀ w9 ∈ zT, w9.before _ s = true := fun w9 h9 => hts w9 (List.mem_cons_of_mem _ h9)
  refine lv_iload_n hx hb d_X_mode_0 rfl (lv_at hl 1 rfl) ?_
  refine lv_if_lt (tgt := 32) hx hb d_X_mode_1 (by decide) (fun c_1 => ?_) (fun c_1 => ?_)
  · exact vx_throwS hx hb hlt (own := "WindowMachine") (cls := "java/lang/IllegalArgumentException") (text := "flags or invalid is not 0 to 15, or mode not 0 to 7") (names := ["java/lang/RuntimeException", "java/lang/Exception"]) (sa := zk 17) (A := A) hown (by decide) (by decide) (ht _ zw_203) (ht _ zw_11) (zz_r17 hZ) (hat_40 ht hY) ho_40 (zz_us hZ) (zz_ss hZ) hS (hl.1.trans hml.symm) d_X_mode_32 d_X_mode_35 d_X_mode_36 d_X_mode_38 d_X_mode_41 (fun x9 h9 => (hex x9 h9).elim) (Nat.le_of_ble_eq_true rfl) (Nat.le_of_ble_eq_true rfl) (Nat.le_of_ble_eq_true rfl) (Nat.le_of_ble_eq_true rfl) hlocks (zx_fin (u := st) hP hD hS ⟨by simp only [f_modeX, if_pos c_1]; decide, by simp only [f_modeX, if_pos c_1]⟩ (by simp only [f_modeX, if_pos c_1]; rfl)) hS.2.2 (Nat.le_of_ble_eq_true rfl) (Nat.le_of_ble_eq_true rfl)
  refine lv_iload_n hx hb d_X_mode_4 rfl (lv_at hl 1 rfl) ?_
  refine lv_bipush (v := (15 : Int32)) hx hb d_X_mode_5 (by decide) ?_
  refine lv_icmp_gt (tgt := 32) hx hb d_X_mode_7 (by decide) (fun c_2 => ?_) (fun c_2 => ?_)
  · exact vx_throwS hx hb hlt (own := "WindowMachine") (cls := "java/lang/IllegalArgumentException") (text := "flags or invalid is not 0 to 15, or mode not 0 to 7") (names := ["java/lang/RuntimeException", "java/lang/Exception"]) (sa := zk 17) (A := A) hown (by decide) (by decide) (ht _ zw_203) (ht _ zw_11) (zz_r17 hZ) (hat_40 ht hY) ho_40 (zz_us hZ) (zz_ss hZ) hS (hl.1.trans hml.symm) d_X_mode_32 d_X_mode_35 d_X_mode_36 d_X_mode_38 d_X_mode_41 (fun x9 h9 => (hex x9 h9).elim) (Nat.le_of_ble_eq_true rfl) (Nat.le_of_ble_eq_true rfl) (Nat.le_of_ble_eq_true rfl) (Nat.le_of_ble_eq_true rfl) hlocks (zx_fin (u := st) hP hD hS ⟨by simp only [f_modeX, if_neg c_1, if_pos c_2]; decide, by simp only [f_modeX, if_neg c_1, if_pos c_2]⟩ (by simp only [f_modeX, if_neg c_1, if_pos c_2]; rfl)) hS.2.2 (Nat.le_of_ble_eq_true rfl) (Nat.le_of_ble_eq_true rfl)
  refine lv_iload_n hx hb d_X_mode_10 rfl (lv_at hl 3 rfl) ?_
  refine lv_if_lt (tgt := 32) hx hb d_X_mode_11 (by decide) (fun c_3 => ?_) (fun c_3 => ?_)
  · exact vx_throwS hx hb hlt (own := "WindowMachine") (cls := "java/lang/IllegalArgumentException") (text := "flags or invalid is not 0 to 15, or mode not 0 to 7") (names := ["java/lang/RuntimeException", "java/lang/Exception"]) (sa := zk 17) (A := A) hown (by decide) (by decide) (ht _ zw_203) (ht _ zw_11) (zz_r17 hZ) (hat_40 ht hY) ho_40 (zz_us hZ) (zz_ss hZ) hS (hl.1.trans hml.symm) d_X_mode_32 d_X_mode_35 d_X_mode_36 d_X_mode_38 d_X_mode_41 (fun x9 h9 => (hex x9 h9).elim) (Nat.le_of_ble_eq_true rfl) (Nat.le_of_ble_eq_true rfl) (Nat.le_of_ble_eq_true rfl) (Nat.le_of_ble_eq_true rfl) hlocks (zx_fin (u := st) hP hD hS ⟨by simp only [f_modeX, if_neg c_1, if_neg c_2, if_pos c_3]; decide, by simp only [f_modeX, if_neg c_1, if_neg c_2, if_pos c_3]⟩ (by simp only [f_modeX, if_neg c_1, if_neg c_2, if_pos c_3]; rfl)) hS.2.2 (Nat.le_of_ble_eq_true rfl) (Nat.le_of_ble_eq_true rfl)
  refine lv_iload_n hx hb d_X_mode_14 rfl (lv_at hl 3 rfl) ?_
  refine lv_bipush (v := (15 : Int32)) hx hb d_X_mode_15 (by decide) ?_
  refine lv_icmp_gt (tgt := 32) hx hb d_X_mode_17 (by decide) (fun c_4 => ?_) (fun c_4 => ?_)
  · exact vx_throwS hx hb hlt (own := "WindowMachine") (cls := "java/lang/IllegalArgumentException") (text := "flags or invalid is not 0 to 15, or mode not 0 to 7") (names := ["java/lang/RuntimeException", "java/lang/Exception"]) (sa := zk 17) (A := A) hown (by decide) (by decide) (ht _ zw_203) (ht _ zw_11) (zz_r17 hZ) (hat_40 ht hY) ho_40 (zz_us hZ) (zz_ss hZ) hS (hl.1.trans hml.symm) d_X_mode_32 d_X_mode_35 d_X_mode_36 d_X_mode_38 d_X_mode_41 (fun x9 h9 => (hex x9 h9).elim) (Nat.le_of_ble_eq_true rfl) (Nat.le_of_ble_eq_true rfl) (Nat.le_of_ble_eq_true rfl) (Nat.le_of_ble_eq_true rfl) hlocks (zx_fin (u := st) hP hD hS ⟨by simp only [f_modeX, if_neg c_1, if_neg c_2, if_neg c_3, if_pos c_4]; decide, by simp only [f_modeX, if_neg c_1, if_neg c_2, if_neg c_3, if_pos c_4]⟩ (by simp only [f_modeX, if_neg c_1, if_neg c_2, if_neg c_3, if_pos c_4]; rfl)) hS.2.2 (Nat.le_of_ble_eq_true rfl) (Nat.le_of_ble_eq_true rfl)
  refine lv_iload hx hb d_X_mode_20 (lv_at hl 5 rfl) ?_
  refine lv_if_lt (tgt := 32) hx hb d_X_mode_22 (by decide) (fun c_5 => ?_) (fun c_5 => ?_)
  · exact vx_throwS hx hb hlt (own := "WindowMachine") (cls := "java/lang/IllegalArgumentException") (text := "flags or invalid is not 0 to 15, or mode not 0 to 7") (names := ["java/lang/RuntimeException", "java/lang/Exception"]) (sa := zk 17) (A := A) hown (by decide) (by decide) (ht _ zw_203) (ht _ zw_11) (zz_r17 hZ) (hat_40 ht hY) ho_40 (zz_us hZ) (zz_ss hZ) hS (hl.1.trans hml.symm) d_X_mode_32 d_X_mode_35 d_X_mode_36 d_X_mode_38 d_X_mode_41 (fun x9 h9 => (hex x9 h9).elim) (Nat.le_of_ble_eq_true rfl) (Nat.le_of_ble_eq_true rfl) (Nat.le_of_ble_eq_true rfl) (Nat.le_of_ble_eq_true rfl) hlocks (zx_fin (u := st) hP hD hS ⟨by simp only [f_modeX, if_neg c_1, if_neg c_2, if_neg c_3, if_neg c_4, if_pos c_5]; decide, by simp only [f_modeX, if_neg c_1, if_neg c_2, if_neg c_3, if_neg c_4, if_pos c_5]⟩ (by simp only [f_modeX, if_neg c_1, if_neg c_2, if_neg c_3, if_neg c_4, if_pos c_5]; rfl)) hS.2.2 (Nat.le_of_ble_eq_true rfl) (Nat.le_of_ble_eq_true rfl)
  refine lv_iload hx hb d_X_mode_25 (lv_at hl 5 rfl) ?_
  refine lv_bipush (v := (7 : Int32)) hx hb d_X_mode_27 (by decide) ?_
  refine lv_icmp_le (tgt := 42) hx hb d_X_mode_29 (by decide) (fun c_6 => ?_) (fun c_6 => ?_)
  · refine lv_aload_n hx hb d_X_mode_42 rfl (lv_at hl 0 rfl) ?_
    refine va_get (D := D) (ci := 5) (v := .ref (h 0)) (C := "WindowMachine") (T := T_X) (N := 3) hx hb ht zi_X hown hK hP 0 rfl rfl 2 (by decide) (ht _ zw_176) (fun _ h9 => h9) rfl d_X_mode_43 ?_
    refine lv_iload_n hx hb d_X_mode_46 rfl (lv_at hl 1 rfl) ?_
    refine lv_iload_n hx hb d_X_mode_47 rfl (lv_at hl 2 rfl) ?_
    refine lv_iload_n hx hb d_X_mode_48 rfl (lv_at hl 3 rfl) ?_
    refine lv_iload hx hb d_X_mode_49 (lv_at hl 4 rfl) ?_
    refine lv_iload hx hb d_X_mode_51 (lv_at hl 5 rfl) ?_
    refine zc_v (w2 := fun u9 => wX h c (u9, st.2)) (va_runV (As := [.int p0, .int p1, .int p2, .int p3, .int p4]) (rest := []) ⟨hx, hb, hml, hown, ht⟩ (mt_P_adopt l D h c H.size st.1 p0 p1 p2 p3 p4) (cwV 5 ht (zgV zw_752 zw_109 zw_110 zw_4 zw_111) rfl rfl rfl kd_P_adopt ⟨Nat.le_of_ble_eq_true rfl, Nat.le_of_ble_eq_true rfl⟩) ⟨zw_blind zw_tt, va_recv (hK.sub (tys' := [(c 0, .int), (c 1, .int)]) [0, 1] rfl) (hP.sub (ws' := wP h c st.1) [1, 2, 3, 4, 5, 6] rfl) (ci := 2) (q0 := 0) rfl rfl, zw_go (hP.sub (ws' := wP h c st.1) [1, 2, 3, 4, 5, 6] rfl) (hD.sub (ws' := wP h c st.1) [1, 2, 3, 4, 5, 6] (by decide) rfl) (hK.sub (tys' := [(c 0, .int), (c 1, .int)]) [0, 1] rfl) (fun _ _ _ => trivial)⟩ rfl rfl hl.1 rfl (lv_room (Nat.le_of_ble_eq_true rfl)) d_X_mode_53 ⟨Nat.le_of_ble_eq_true rfl, Nat.le_of_ble_eq_true rfl⟩) hP hD hS hA [1, 2, 3, 4, 5, 6] [0, 7, 8] [0, 3, 4, 5, 6, 7, 8, 1, 2] rfl rfl (by decide) (by decide) (by decide) (fun _ => rfl) (fun u_7 H locs hw hP hD hS => ?_)
    have eu_7 := hw
    refine lv_aload_n hx hb d_X_mode_56 rfl (lv_at hl 0 rfl) ?_
    refine va_get (D := D) (ci := 5) (v := .ref (h 0)) (C := "WindowMachine") (T := T_X) (N := 3) hx hb ht zi_X hown hK hP 0 rfl rfl 2 (by decide) (ht _ zw_176) (fun _ h9 => h9) rfl d_X_mode_57 ?_
    refine va_getN (D := D) (ci := 2) (v := .int (u_7.1 0)) (C := "WindowMachine$Processor") (T := T_P) (N := 18) hx hb ht zi_P hown hK hP 1 rfl rfl 3 (by decide) (va_Nw.use rfl (zz_n121 hZ)) (fun _ h9 => h9) rfl d_X_mode_60 ?_
    refine W.widen (k := 1) (n := 6) (Nat.le_of_ble_eq_true rfl) (Nat.le_of_ble_eq_true rfl) ?_
    exact vx_ret (zl_i (u := (u_7, st.2)) hx hb hr hlocks hS hP hD (⟨by simp only [f_modeX, ← eu_7, if_neg c_1, if_neg c_2, if_neg c_3, if_neg c_4, if_neg c_5, if_pos c_6], by simp only [f_modeX, ← eu_7, if_neg c_1, if_neg c_2, if_neg c_3, if_neg c_4, if_neg c_5, if_pos c_6], by simp only [f_modeX, ← eu_7, if_neg c_1, if_neg c_2, if_neg c_3, if_neg c_4, if_neg c_5, if_pos c_6]⟩) d_X_mode_63)
  exact vx_throwS hx hb hlt (own := "WindowMachine") (cls := "java/lang/IllegalArgumentException") (text := "flags or invalid is not 0 to 15, or mode not 0 to 7") (names := ["java/lang/RuntimeException", "java/lang/Exception"]) (sa := zk 17) (A := A) hown (by decide) (by decide) (ht _ zw_203) (ht _ zw_11) (zz_r17 hZ) (hat_40 ht hY) ho_40 (zz_us hZ) (zz_ss hZ) hS (hl.1.trans hml.symm) d_X_mode_32 d_X_mode_35 d_X_mode_36 d_X_mode_38 d_X_mode_41 (fun x9 h9 => (hex x9 h9).elim) (Nat.le_of_ble_eq_true rfl) (Nat.le_of_ble_eq_true rfl) (Nat.le_of_ble_eq_true rfl) (Nat.le_of_ble_eq_true rfl) hlocks (zx_fin (u := st) hP hD hS ⟨by simp only [f_modeX, if_neg c_1, if_neg c_2, if_neg c_3, if_neg c_4, if_neg c_5, if_neg c_6]; decide, by simp only [f_modeX, if_neg c_1, if_neg c_2, if_neg c_3, if_neg c_4, if_neg c_5, if_neg c_6]⟩ (by simp only [f_modeX, if_neg c_1, if_neg c_2, if_neg c_3, if_neg c_4, if_neg c_5, if_neg c_6]; rfl)) hS.2.2 (Nat.le_of_ble_eq_true rfl) (Nat.le_of_ble_eq_true rfl)
