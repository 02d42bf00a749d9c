abbrev w_L_letters : List Cond := .codeWith y_L_letters c_L_letters 5 (some .int) [(0, 9, 12, 13), (0, 9, 16, 15)] :: zT
theorem d_L_letters_0 : decode c_L_letters 0 = .ok (.aload_n 3, 1) := by decide +kernel
theorem d_L_letters_1 : decode c_L_letters 1 = .ok (.iconst 0, 1) := by decide +kernel
theorem d_L_letters_2 : decode c_L_letters 2 = .ok (.aload_n 0, 1) := by decide +kernel
theorem d_L_letters_3 : decode c_L_letters 3 = .ok (.lload_n 1, 1) := by decide +kernel
theorem d_L_letters_4 : decode c_L_letters 4 = .ok (.invokevirtual 7, 3) := by decide +kernel
theorem d_L_letters_7 : decode c_L_letters 7 = .ok (.i2l, 1) := by decide +kernel
theorem d_L_letters_8 : decode c_L_letters 8 = .ok (.lastore, 1) := by decide +kernel
theorem d_L_letters_9 : decode c_L_letters 9 = .ok (.goto 11, 3) := by decide +kernel
theorem d_L_letters_12 : decode c_L_letters 12 = .ok (.astore 4, 2) := by decide +kernel
theorem d_L_letters_14 : decode c_L_letters 14 = .ok (.iconst 1, 1) := by decide +kernel
theorem d_L_letters_15 : decode c_L_letters 15 = .ok (.ireturn, 1) := by decide +kernel
theorem d_L_letters_16 : decode c_L_letters 16 = .ok (.astore 4, 2) := by decide +kernel
theorem d_L_letters_18 : decode c_L_letters 18 = .ok (.iconst 2, 1) := by decide +kernel
theorem d_L_letters_19 : decode c_L_letters 19 = .ok (.ireturn, 1) := by decide +kernel
theorem d_L_letters_20 : decode c_L_letters 20 = .ok (.iconst 0, 1) := by decide +kernel
theorem d_L_letters_21 : decode c_L_letters 21 = .ok (.ireturn, 1) := by decide +kernel
theorem kd_L_letters : (y_L_letters).cls = "WindowMachineLaw" ∧ (y_L_letters).cls ≠ "java/lang/invoke/MethodHandle" ∧ (y_L_letters).cls ≠ "java/lang/invoke/VarHandle" ∧ (parseMethodDescriptor (y_L_letters).desc).map (fun d => d.parameters.length) = some 3 := by decide +kernel
set_option maxHeartbeats 4000000 in
set_option maxRecDepth 100000 in
theorem mt_L_letters (l : Launch) (hlt : l.stackTraces = false) (D : va_G) (za zk zv : Nat → Nat) (h : Nat → Nat) (c : Nat → ClassId) (o : Nat) (co : ClassId) (sz : Nat) (st : SX) (ov : Nat → Int64) (p0 : Int64) (hL : 0 ≤ (st.2.1 0).toInt ∧ (st.2.1 0).toInt ≤ 40) : Met l y_L_letters w_L_letters ({ frames := 7, cells := 1, slots := 6, locals := 109 }) (va_Pc [.ref (h 6), .long p0, .ref o] (zw_pre D vwCl [(c 0, .int), (c 1, .int), (c 2, .char), (co, .long)] sz (wL h c o co st ov) (zh za zk zv (va_A (wL h c o co st ov) sz)))) (va_Qi (fun r (u : SX × (Nat → Int64)) => r = (f_lettersX st p0).1 ∧ u.1 = (f_lettersX st p0).2.2 ∧ ((f_lettersX st p0).1 = (0 : Int32) → u.2 0 = (f_lettersX st p0).2.1.toInt64)) (fun (u : SX × (Nat → Int64)) t => zw_at D vwCl (va_A (wL h c o co st ov) sz) ((fun (u : SX × (Nat → Int64)) => wL h c o co u.1 u.2) u) t) (va_A (wL h c o co st ov) sz)) 1 6 (va_A (wL h c o co st ov) sz) := by
  refine zmW (Qf := fun A => va_Qi (fun r (u : SX × (Nat → Int64)) => r = (f_lettersX st p0).1 ∧ u.1 = (f_lettersX st p0).2.2 ∧ ((f_lettersX st p0).1 = (0 : Int32) → u.2 0 = (f_lettersX st p0).2.1.toInt64)) (fun (u : SX × (Nat → Int64)) t => zw_at D vwCl A ((fun (u : SX × (Nat → Int64)) => wL h c o co u.1 u.2) u) t) A) (Zf := fun A => zh za zk zv A) (cc := c_L_letters) (nL := 5) (ret := (some .int)) (hh := [(0, 9, 12, 13), (0, 9, 16, 15)]) (by decide) rfl (Nat.le_of_ble_eq_true rfl) ?_
  intro p e s m below meth c9 A H locs ls hx hb hml hown hts hr hlocks hA hK hP hD hS hZ hl hex
  have hl : lv_has ls 5 [(0, .ref (h 6)), (1, .long p0), (3, .ref o)] := hl
  have ht : ∀ w9 ∈ zT, w9.before _ s = true := fun w9 h9 => hts w9 (List.mem_cons_of_mem _ h9)
  refine lv_aload_n hx hb d_L_letters_0 rfl (lv_at hl 2 rfl) ?_
  refine lv_iconst (v := (0 : Int32)) hx hb d_L_letters_1 (by decide) ?_
  refine lv_aload_n hx hb d_L_letters_2 rfl (lv_at hl 0 rfl) ?_
  refine lv_lload_n hx hb d_L_letters_3 rfl (lv_at hl 1 rfl) ?_
  refine zhc_i (w2 := fun u9 => wL h c o co u9 ov) (w3 := fun u9 => wL h c o co u9 ov) (vx_runV (As := [.long p0]) (rest := [.int (0 : Int32), .ref o]) ⟨hx, hb, hml, hown, ht⟩ (mt_X_letters l hlt D za zk zv h c H.size st p0 hL) (cwV 1 ht (zgV zw_193 zw_194 zw_195 zw_1 zw_196) rfl rfl rfl kd_X_letters ⟨Nat.le_of_ble_eq_true rfl, Nat.le_of_ble_eq_true rfl⟩) ⟨zw_blind zy_bl, va_recv (hK.sub (tys' := [(c 0, .int), (c 1, .int), (c 2, .char)]) [0, 1, 2] rfl) (hP.sub (ws' := wX h c st) [0, 1, 2, 3, 4, 5, 6, 7, 8] rfl) (ci := 5) (q0 := 0) rfl rfl, zw_go (hP.sub (ws' := wX h c st) [0, 1, 2, 3, 4, 5, 6, 7, 8] rfl) (hD.sub (ws' := wX h c st) [0, 1, 2, 3, 4, 5, 6, 7, 8] (by decide) rfl) (hK.sub (tys' := [(c 0, .int), (c 1, .int), (c 2, .char)]) [0, 1, 2] rfl) (fun U hU hW9 => zy_go hZ.1 hS (va_free (wc := wX h c st) hD hS hA [0, 1, 2, 3, 4, 5, 6, 7, 8] rfl) hU hW9)⟩ rfl rfl hl.1 rfl (lv_room (Nat.le_of_ble_eq_true rfl)) d_L_letters_4 ⟨Nat.le_of_ble_eq_true rfl, Nat.le_of_ble_eq_true rfl⟩) hP hD hS hA [0, 1, 2, 3, 4, 5, 6, 7, 8] [9] [1, 2, 3, 4, 5, 6, 7, 8, 9, 0] rfl rfl (by decide) (by decide) (by decide) (fun _ => rfl) (fun _ => rfl) (fun E ce q9 u H locs hp hE hP hD hS hce hcv hcl => ?_) (fun r u H locs hw hP hD hS => ?_)
  · rcases (cd_letters st p0).resolve_left hp.1 with k1 | k1
    · have hE : E = "java/lang/IllegalArgumentException" := hE.trans (by rw [k1]; rfl)
      subst hE
      refine vx_catch hown [] (⟨0, 9, 12, 13⟩ : ExceptionTableEntry) [(⟨0, 9, 16, 15⟩ : ExceptionTableEntry)] hex (fun z hz => nomatch hz) (by decide) (by decide) (ht _ zw_191) (zyB_ok hZ.1 _ (List.mem_of_getElem? (i := 0) rfl)) hce hcv hcl ?_
      refine lv_astore (lv' := [(4, .ref q9), (0, .ref (h 6)), (1, .long p0), (3, .ref o)]) hx hb d_L_letters_12 hl (by decide) rfl (fun ls hl => ?_)
      refine lv_iconst (v := (1 : Int32)) hx hb d_L_letters_14 (by decide) ?_
      exact zl_i (u := (u, ov)) hx hb hr hlocks hS hP hD ⟨k1.symm, hp.2, fun z => absurd z hp.1⟩ d_L_letters_15
    · have hE : E = "java/lang/IndexOutOfBoundsException" := hE.trans (by rw [k1]; rfl)
      subst hE
      refine vx_catch hown [(⟨0, 9, 12, 13⟩ : ExceptionTableEntry)] (⟨0, 9, 16, 15⟩ : ExceptionTableEntry) [] hex (fun z hz => Or.inr (by rw [List.mem_singleton] at hz; subst hz; exact ⟨by decide, "java/lang/IllegalArgumentException", ht _ zw_191, hZ.2.1⟩)) (by decide) (by decide) (ht _ zw_192) (zyB_ok hZ.1 _ (List.mem_of_getElem? (i := 7) rfl)) hce hcv hcl ?_
      refine lv_astore (lv' := [(4, .ref q9), (0, .ref (h 6)), (1, .long p0), (3, .ref o)]) hx hb d_L_letters_16 hl (by decide) rfl (fun ls hl => ?_)
      refine lv_iconst (v := (2 : Int32)) hx hb d_L_letters_18 (by decide) ?_
      exact zl_i (u := (u, ov)) hx hb hr hlocks hS hP hD ⟨k1.symm, hp.2, fun z => absurd z hp.1⟩ d_L_letters_19
  refine lv_i2l (v := r.toInt64) hx hb d_L_letters_7 rfl ?_
  refine va_last hx hb hK hP hD hS 9 3 rfl rfl (by unfold vp_in; decide) d_L_letters_8 (fun H locs hP hD hS => ?_)
  have hP : va_P D vwCl (wL h c o co u (vp_updL ov (0 : Int32).toNatClampNeg r.toInt64)) H := hP
  have hD : va_D A (wL h c o co u (vp_updL ov (0 : Int32).toNatClampNeg r.toInt64)) := hD
  refine lv_goto (tgt := 20) hx hb d_L_letters_9 (by decide) ?_
  refine lv_iconst (v := (0 : Int32)) hx hb d_L_letters_20 (by decide) ?_
  exact zl_i (u := (u, vp_updL ov (0 : Int32).toNatClampNeg r.toInt64)) hx hb hr hlocks hS hP hD ⟨hw.1.symm, hw.2.2, fun _ => by rw [← hw.2.1]; rfl⟩ d_L_letters_21
abbrev w_L_assemble : List Cond := .codeWith y_L_assemble c_L_assemble 4 (some .int) [(0, 9, 12, 13), (0, 9, 15, 15)] :: zT
theorem d_L_assemble_0 : decode c_L_assemble 0 = .ok (.aload_n 2, 1) := by decide +kernel
theorem d_L_assemble_1 : decode c_L_assemble 1 = .ok (.iconst 0, 1) := by decide +kernel
theorem d_L_assemble_2 : decode c_L_assemble 2 = .ok (.aload_n 0, 1) := by decide +kernel
theorem d_L_assemble_3 : decode c_L_assemble 3 = .ok (.iload_n 1, 1) := by decide +kernel
theorem d_L_assemble_4 : decode c_L_assemble 4 = .ok (.invokevirtual 17, 3) := by decide +kernel
theorem d_L_assemble_7 : decode c_L_assemble 7 = .ok (.i2l, 1) := by decide +kernel
theorem d_L_assemble_8 : decode c_L_assemble 8 = .ok (.lastore, 1) := by decide +kernel
theorem d_L_assemble_9 : decode c_L_assemble 9 = .ok (.goto 9, 3) := by decide +kernel
theorem d_L_assemble_12 : decode c_L_assemble 12 = .ok (.astore_n 3, 1) := by decide +kernel
theorem d_L_assemble_13 : decode c_L_assemble 13 = .ok (.iconst 1, 1) := by decide +kernel
theorem d_L_assemble_14 : decode c_L_assemble 14 = .ok (.ireturn, 1) := by decide +kernel
theorem d_L_assemble_15 : decode c_L_assemble 15 = .ok (.astore_n 3, 1) := by decide +kernel
theorem d_L_assemble_16 : decode c_L_assemble 16 = .ok (.iconst 2, 1) := by decide +kernel
theorem d_L_assemble_17 : decode c_L_assemble 17 = .ok (.ireturn, 1) := by decide +kernel
theorem d_L_assemble_18 : decode c_L_assemble 18 = .ok (.iconst 0, 1) := by decide +kernel
theorem d_L_assemble_19 : decode c_L_assemble 19 = .ok (.ireturn, 1) := by decide +kernel
theorem kd_L_assemble : (y_L_assemble).cls = "WindowMachineLaw" ∧ (y_L_assemble).cls ≠ "java/lang/invoke/MethodHandle" ∧ (y_L_assemble).cls ≠ "java/lang/invoke/VarHandle" ∧ (parseMethodDescriptor (y_L_assemble).desc).map (fun d => d.parameters.length) = some 3 := by decide +kernel
set_option maxHeartbeats 4000000 in
set_option maxRecDepth 100000 in
theorem mt_L_assemble (l : Launch) (hlt : l.stackTraces = false) (D : va_G) (za zk zv : Nat → Nat) (h : Nat → Nat) (c : Nat → ClassId) (o : Nat) (co : ClassId) (sz : Nat) (st : SX) (ov : Nat → Int64) (p0 : Int32) (hL : 0 ≤ (st.2.1 0).toInt ∧ (st.2.1 0).toInt ≤ 40) : Met l y_L_assemble w_L_assemble ({ frames := 11, cells := 1, slots := 6, locals := 244 }) (va_Pc [.ref (h 6), .int p0, .ref o] (zw_pre D vwCl [(c 0, .int), (c 1, .int), (c 2, .char), (co, .long)] sz (wL h c o co st ov) (zh za zk zv (va_A (wL h c o co st ov) sz)))) (va_Qi (fun r (u : SX × (Nat → Int64)) => r = (f_assembleX st p0).1 ∧ u.1 = (f_assembleX st p0).2.2 ∧ ((f_assembleX st p0).1 = (0 : Int32) → u.2 0 = (f_assembleX st p0).2.1.toInt64)) (fun (u : SX × (Nat → Int64)) t => zw_at D vwCl (va_A (wL h c o co st ov) sz) ((fun (u : SX × (Nat → Int64)) => wL h c o co u.1 u.2) u) t) (va_A (wL h c o co st ov) sz)) 1 6 (va_A (wL h c o co st ov) sz) := by
  refine zmW (Qf := fun A => va_Qi (fun r (u : SX × (Nat → Int64)) => r = (f_assembleX st p0).1 ∧ u.1 = (f_assembleX st p0).2.2 ∧ ((f_assembleX st p0).1 = (0 : Int32) → u.2 0 = (f_assembleX st p0).2.1.toInt64)) (fun (u : SX × (Nat → Int64)) t => zw_at D vwCl A ((fun (u : SX × (Nat → Int64)) => wL h c o co u.1 u.2) u) t) A) (Zf := fun A => zh za zk zv A) (cc := c_L_assemble) (nL := 4) (ret := (some .int)) (hh := [(0, 9, 12, 13), (0, 9, 15, 15)]) (by decide) rfl (Nat.le_of_ble_eq_true rfl) ?_
  intro p e s m below meth c9 A H locs ls hx hb hml hown hts hr hlocks hA hK hP hD hS hZ hl hex
  have hl : lv_has ls 4 [(0, .ref (h 6)), (1, .int p0), (2, .ref o)] := hl
  have ht : ∀ w9 ∈ zT, w9.before _ s = true := fun w9 h9 => hts w9 (List.mem_cons_of_mem _ h9)
  refine lv_aload_n hx hb d_L_assemble_0 rfl (lv_at hl 2 rfl) ?_
  refine lv_iconst (v := (0 : Int32)) hx hb d_L_assemble_1 (by decide) ?_
  refine lv_aload_n hx hb d_L_assemble_2 rfl (lv_at hl 0 rfl) ?_
  refine lv_iload_n hx hb d_L_assemble_3 rfl (lv_at hl 1 rfl) ?_
  refine zhc_i (w2 := fun u9 => wL h c o co u9 ov) (w3 := fun u9 => wL h c o co u9 ov) (vx_runV (As := [.int p0]) (rest := [.int (0 : Int32), .ref o]) ⟨hx, hb, hml, hown, ht⟩ (mt_X_assemble l hlt D za zk zv h c H.size st p0 hL) (cwV 1 ht (zgV zw_298 zw_299 zw_300 zw_1 zw_301) rfl rfl rfl kd_X_assemble ⟨Nat.le_of_ble_eq_true rfl, Nat.le_of_ble_eq_true rfl⟩) ⟨zw_blind zy_bl, va_recv (hK.sub (tys' := [(c 0, .int), (c 1, .int), (c 2, .char)]) [0, 1, 2] rfl) (hP.sub (ws' := wX h c st) [0, 1, 2, 3, 4, 5, 6, 7, 8] rfl) (ci := 5) (q0 := 0) rfl rfl, zw_go (hP.sub (ws' := wX h c st) [0, 1, 2, 3, 4, 5, 6, 7, 8] rfl) (hD.sub (ws' := wX h c st) [0, 1, 2, 3, 4, 5, 6, 7, 8] (by decide) rfl) (hK.sub (tys' := [(c 0, .int), (c 1, .int), (c 2, .char)]) [0, 1, 2] rfl) (fun U hU hW9 => zy_go hZ.1 hS (va_free (wc := wX h c st) hD hS hA [0, 1, 2, 3, 4, 5, 6, 7, 8] rfl) hU hW9)⟩ rfl rfl hl.1 rfl (lv_room (Nat.le_of_ble_eq_true rfl)) d_L_assemble_4 ⟨Nat.le_of_ble_eq_true rfl, Nat.le_of_ble_eq_true rfl⟩) hP hD hS hA [0, 1, 2, 3, 4, 5, 6, 7, 8] [9] [1, 2, 3, 4, 5, 6, 7, 8, 9, 0] rfl rfl (by decide) (by decide) (by decide) (fun _ => rfl) (fun _ => rfl) (fun E ce q9 u H locs hp hE hP hD hS hce hcv hcl => ?_) (fun r u H locs hw hP hD hS => ?_)
  · rcases (cd_assemble st p0).resolve_left hp.1 with k1 | k1
    · have hE : E = "java/lang/IllegalArgumentException" := hE.trans (by rw [k1]; rfl)
      subst hE
      refine vx_catch hown [] (⟨0, 9, 12, 13⟩ : ExceptionTableEntry) [(⟨0, 9, 15, 15⟩ : ExceptionTableEntry)] hex (fun z hz => nomatch hz) (by decide) (by decide) (ht _ zw_191) (zyB_ok hZ.1 _ (List.mem_of_getElem? (i := 0) rfl)) hce hcv hcl ?_
      refine lv_astore_n (lv' := [(3, .ref q9), (0, .ref (h 6)), (1, .int p0), (2, .ref o)]) hx hb d_L_assemble_12 rfl hl (by decide) rfl (fun ls hl => ?_)
      refine lv_iconst (v := (1 : Int32)) hx hb d_L_assemble_13 (by decide) ?_
      exact zl_i (u := (u, ov)) hx hb hr hlocks hS hP hD ⟨k1.symm, hp.2, fun z => absurd z hp.1⟩ d_L_assemble_14
    · have hE : E = "java/lang/IndexOutOfBoundsException" := hE.trans (by rw [k1]; rfl)
      subst hE
      refine vx_catch hown [(⟨0, 9, 12, 13⟩ : ExceptionTableEntry)] (⟨0, 9, 15, 15⟩ : ExceptionTableEntry) [] hex (fun z hz => Or.inr (by rw [List.mem_singleton] at hz; subst hz; exact ⟨by decide, "java/lang/IllegalArgumentException", ht _ zw_191, hZ.2.1⟩)) (by decide) (by decide) (ht _ zw_192) (zyB_ok hZ.1 _ (List.mem_of_getElem? (i := 7) rfl)) hce hcv hcl ?_
      refine lv_astore_n (lv' := [(3, .ref q9), (0, .ref (h 6)), (1, .int p0), (2, .ref o)]) hx hb d_L_assemble_15 rfl hl (by decide) rfl (fun ls hl => ?_)
      refine lv_iconst (v := (2 : Int32)) hx hb d_L_assemble_16 (by decide) ?_
      exact zl_i (u := (u, ov)) hx hb hr hlocks hS hP hD ⟨k1.symm, hp.2, fun z => absurd z hp.1⟩ d_L_assemble_17
  refine lv_i2l (v := r.toInt64) hx hb d_L_assemble_7 rfl ?_
  refine va_last hx hb hK hP hD hS 9 3 rfl rfl (by unfold vp_in; decide) d_L_assemble_8 (fun H locs hP hD hS => ?_)
  have hP : va_P D vwCl (wL h c o co u (vp_updL ov (0 : Int32).toNatClampNeg r.toInt64)) H := hP
  have hD : va_D A (wL h c o co u (vp_updL ov (0 : Int32).toNatClampNeg r.toInt64)) := hD
  refine lv_goto (tgt := 18) hx hb d_L_assemble_9 (by decide) ?_
  refine lv_iconst (v := (0 : Int32)) hx hb d_L_assemble_18 (by decide) ?_
  exact zl_i (u := (u, vp_updL ov (0 : Int32).toNatClampNeg r.toInt64)) hx hb hr hlocks hS hP hD ⟨hw.1.symm, hw.2.2, fun _ => by rw [← hw.2.1]; rfl⟩ d_L_assemble_19
abbrev w_L_word : List Cond := .codeWith y_L_word c_L_word 4 (some .int) [(0, 9, 12, 15)] :: zT
theorem d_L_word_0 : decode c_L_word 0 = .ok (.aload_n 2, 1) := by decide +kernel
theorem d_L_word_1 : decode c_L_word 1 = .ok (.iconst 0, 1) := by decide +kernel
theorem d_L_word_2 : decode c_L_word 2 = .ok (.aload_n 0, 1) := by decide +kernel
theorem d_L_word_3 : decode c_L_word 3 = .ok (.iload_n 1, 1) := by decide +kernel
theorem d_L_word_4 : decode c_L_word 4 = .ok (.invokevirtual 25, 3) := by decide +kernel
theorem d_L_word_7 : decode c_L_word 7 = .ok (.i2l, 1) := by decide +kernel
theorem d_L_word_8 : decode c_L_word 8 = .ok (.lastore, 1) := by decide +kernel
theorem d_L_word_9 : decode c_L_word 9 = .ok (.goto 6, 3) := by decide +kernel
theorem d_L_word_12 : decode c_L_word 12 = .ok (.astore_n 3, 1) := by decide +kernel
theorem d_L_word_13 : decode c_L_word 13 = .ok (.iconst 1, 1) := by decide +kernel
theorem d_L_word_14 : decode c_L_word 14 = .ok (.ireturn, 1) := by decide +kernel
theorem d_L_word_15 : decode c_L_word 15 = .ok (.iconst 0, 1) := by decide +kernel
theorem d_L_word_16 : decode c_L_word 16 = .ok (.ireturn, 1) := by decide +kernel
theorem kd_L_word : (y_L_word).cls = "WindowMachineLaw" ∧ (y_L_word).cls ≠ "java/lang/invoke/MethodHandle" ∧ (y_L_word).cls ≠ "java/lang/invoke/VarHandle" ∧ (parseMethodDescriptor (y_L_word).desc).map (fun d => d.parameters.length) = some 3 := by decide +kernel
set_option maxHeartbeats 4000000 in
set_option maxRecDepth 100000 in
theorem mt_L_word (l : Launch) (hlt : l.stackTraces = false) (D : va_G) (za zk zv : Nat → Nat) (h : Nat → Nat) (c : Nat → ClassId) (o : Nat) (co : ClassId) (sz : Nat) (st : SX) (ov : Nat → Int64) (p0 : Int32)  : Met l y_L_word w_L_word ({ frames := 8, cells := 1, slots := 6, locals := 128 }) (va_Pc [.ref (h 6), .int p0, .ref o] (zw_pre D vwCl [(c 0, .int), (c 1, .int), (c 2, .char), (co, .long)] sz (wL h c o co st ov) (zh za zk zv (va_A (wL h c o co st ov) sz)))) (va_Qi (fun r (u : SX × (Nat → Int64)) => r = (f_wordX st p0).1 ∧ u.1 = (f_wordX st p0).2.2 ∧ ((f_wordX st p0).1 = (0 : Int32) → u.2 0 = (f_wordX st p0).2.1.toInt64)) (fun (u : SX × (Nat → Int64)) t => zw_at D vwCl (va_A (wL h c o co st ov) sz) ((fun (u : SX × (Nat → Int64)) => wL h c o co u.1 u.2) u) t) (va_A (wL h c o co st ov) sz)) 1 6 (va_A (wL h c o co st ov) sz) := by
  refine zmW (Qf := fun A => va_Qi (fun r (u : SX × (Nat → Int64)) => r = (f_wordX st p0).1 ∧ u.1 = (f_wordX st p0).2.2 ∧ ((f_wordX st p0).1 = (0 : Int32) → u.2 0 = (f_wordX st p0).2.1.toInt64)) (fun (u : SX × (Nat → Int64)) t => zw_at D vwCl A ((fun (u : SX × (Nat → Int64)) => wL h c o co u.1 u.2) u) t) A) (Zf := fun A => zh za zk zv A) (cc := c_L_word) (nL := 4) (ret := (some .int)) (hh := [(0, 9, 12, 15)]) (by decide) rfl (Nat.le_of_ble_eq_true rfl) ?_
  intro p e s m below meth c9 A H locs ls hx hb hml hown hts hr hlocks hA hK hP hD hS hZ hl hex
  have hl : lv_has ls 4 [(0, .ref (h 6)), (1, .int p0), (2, .ref o)] := hl
  have ht : ∀ w9 ∈ zT, w9.before _ s = true := fun w9 h9 => hts w9 (List.mem_cons_of_mem _ h9)
  refine lv_aload_n hx hb d_L_word_0 rfl (lv_at hl 2 rfl) ?_
  refine lv_iconst (v := (0 : Int32)) hx hb d_L_word_1 (by decide) ?_
  refine lv_aload_n hx hb d_L_word_2 rfl (lv_at hl 0 rfl) ?_
  refine lv_iload_n hx hb d_L_word_3 rfl (lv_at hl 1 rfl) ?_
  refine zhc_i (w2 := fun u9 => wL h c o co u9 ov) (w3 := fun u9 => wL h c o co u9 ov) (vx_runV (As := [.int p0]) (rest := [.int (0 : Int32), .ref o]) ⟨hx, hb, hml, hown, ht⟩ (mt_X_word l hlt D za zk zv h c H.size st p0) (cwV 1 ht (zgV zw_488 zw_489 zw_490 zw_1 zw_491) rfl rfl rfl kd_X_word ⟨Nat.le_of_ble_eq_true rfl, Nat.le_of_ble_eq_true rfl⟩) ⟨zw_blind zy_bl, va_recv (hK.sub (tys' := [(c 0, .int), (c 1, .int), (c 2, .char)]) [0, 1, 2] rfl) (hP.sub (ws' := wX h c st) [0, 1, 2, 3, 4, 5, 6, 7, 8] rfl) (ci := 5) (q0 := 0) rfl rfl, zw_go (hP.sub (ws' := wX h c st) [0, 1, 2, 3, 4, 5, 6, 7, 8] rfl) (hD.sub (ws' := wX h c st) [0, 1, 2, 3, 4, 5, 6, 7, 8] (by decide) rfl) (hK.sub (tys' := [(c 0, .int), (c 1, .int), (c 2, .char)]) [0, 1, 2] rfl) (fun U hU hW9 => zy_go hZ.1 hS (va_free (wc := wX h c st) hD hS hA [0, 1, 2, 3, 4, 5, 6, 7, 8] rfl) hU hW9)⟩ rfl rfl hl.1 rfl (lv_room (Nat.le_of_ble_eq_true rfl)) d_L_word_4 ⟨Nat.le_of_ble_eq_true rfl, Nat.le_of_ble_eq_true rfl⟩) hP hD hS hA [0, 1, 2, 3, 4, 5, 6, 7, 8] [9] [1, 2, 3, 4, 5, 6, 7, 8, 9, 0] rfl rfl (by decide) (by decide) (by decide) (fun _ => rfl) (fun _ => rfl) (fun E ce q9 u H locs hp hE hP hD hS hce hcv hcl => ?_) (fun r u H locs hw hP hD hS => ?_)
  · have k1 := (cd_word st p0).resolve_left hp.1
    have hE : E = "java/lang/IndexOutOfBoundsException" := hE
    subst hE
    refine vx_catch hown [] (⟨0, 9, 12, 15⟩ : ExceptionTableEntry) [] hex (fun z hz => nomatch hz) (by decide) (by decide) (ht _ zw_192) (zyB_ok hZ.1 _ (List.mem_of_getElem? (i := 7) rfl)) hce hcv hcl ?_
    refine lv_astore_n (lv' := [(3, .ref q9), (0, .ref (h 6)), (1, .int p0), (2, .ref o)]) hx hb d_L_word_12 rfl hl (by decide) rfl (fun ls hl => ?_)
    refine lv_iconst (v := (1 : Int32)) hx hb d_L_word_13 (by decide) ?_
    exact zl_i (u := (u, ov)) hx hb hr hlocks hS hP hD ⟨k1.symm, hp.2, fun z => absurd z hp.1⟩ d_L_word_14
  refine lv_i2l (v := r.toInt64) hx hb d_L_word_7 rfl ?_
  refine va_last hx hb hK hP hD hS 9 3 rfl rfl (by unfold vp_in; decide) d_L_word_8 (fun H locs hP hD hS => ?_)
  have hP : va_P D vwCl (wL h c o co u (vp_updL ov (0 : Int32).toNatClampNeg r.toInt64)) H := hP
  have hD : va_D A (wL h c o co u (vp_updL ov (0 : Int32).toNatClampNeg r.toInt64)) := hD
  refine lv_goto (tgt := 15) hx hb d_L_word_9 (by decide) ?_
  refine lv_iconst (v := (0 : Int32)) hx hb d_L_word_15 (by decide) ?_
  exact zl_i (u := (u, vp_updL ov (0 : Int32).toNatClampNeg r.toInt64)) hx hb hr hlocks hS hP hD ⟨hw.1.symm, hw.2.2, fun _ => by rw [← hw.2.1]; rfl⟩ d_L_word_16
abbrev w_L_run : List Cond := .codeWith y_L_run c_L_run 4 (some .int) [(0, 9, 12, 13), (0, 9, 15, 31)] :: zT
theorem d_L_run_0 : decode c_L_run 0 = .ok (.aload_n 2, 1) := by decide +kernel
theorem d_L_run_1 : decode c_L_run 1 = .ok (.iconst 0, 1) := by decide +kernel
theorem d_L_run_2 : decode c_L_run 2 = .ok (.aload_n 0, 1) := by decide +kernel
theorem d_L_run_3 : decode c_L_run 3 = .ok (.iload_n 1, 1) := by decide +kernel
theorem d_L_run_4 : decode c_L_run 4 = .ok (.invokevirtual 28, 3) := by decide +kernel
theorem d_L_run_7 : decode c_L_run 7 = .ok (.i2l, 1) := by decide +kernel
theorem d_L_run_8 : decode c_L_run 8 = .ok (.lastore, 1) := by decide +kernel
theorem d_L_run_9 : decode c_L_run 9 = .ok (.goto 9, 3) := by decide +kernel
theorem d_L_run_12 : decode c_L_run 12 = .ok (.astore_n 3, 1) := by decide +kernel
theorem d_L_run_13 : decode c_L_run 13 = .ok (.iconst 1, 1) := by decide +kernel
theorem d_L_run_14 : decode c_L_run 14 = .ok (.ireturn, 1) := by decide +kernel
theorem d_L_run_15 : decode c_L_run 15 = .ok (.astore_n 3, 1) := by decide +kernel
theorem d_L_run_16 : decode c_L_run 16 = .ok (.iconst 2, 1) := by decide +kernel
theorem d_L_run_17 : decode c_L_run 17 = .ok (.ireturn, 1) := by decide +kernel
theorem d_L_run_18 : decode c_L_run 18 = .ok (.iconst 0, 1) := by decide +kernel
theorem d_L_run_19 : decode c_L_run 19 = .ok (.ireturn, 1) := by decide +kernel
theorem kd_L_run : (y_L_run).cls = "WindowMachineLaw" ∧ (y_L_run).cls ≠ "java/lang/invoke/MethodHandle" ∧ (y_L_run).cls ≠ "java/lang/invoke/VarHandle" ∧ (parseMethodDescriptor (y_L_run).desc).map (fun d => d.parameters.length) = some 3 := by decide +kernel
set_option maxHeartbeats 4000000 in
set_option maxRecDepth 100000 in
theorem mt_L_run (l : Launch) (hlt : l.stackTraces = false) (D : va_G) (za zk zv : Nat → Nat) (h : Nat → Nat) (c : Nat → ClassId) (o : Nat) (co : ClassId) (sz : Nat) (st : SX) (ov : Nat → Int64) (p0 : Int32) (hW : okW st.1) : Met l y_L_run w_L_run ({ frames := 8, cells := 1, slots := 6, locals := 187 }) (va_Pc [.ref (h 6), .int p0, .ref o] (zw_pre D vwCl [(c 0, .int), (c 1, .int), (c 2, .char), (co, .long)] sz (wL h c o co st ov) (zh za zk zv (va_A (wL h c o co st ov) sz)))) (va_Qi (fun r (u : SX × (Nat → Int64)) => r = (f_runX st p0).1 ∧ u.1 = (f_runX st p0).2.2 ∧ ((f_runX st p0).1 = (0 : Int32) → u.2 0 = (f_runX st p0).2.1.toInt64)) (fun (u : SX × (Nat → Int64)) t => zw_at D vwCl (va_A (wL h c o co st ov) sz) ((fun (u : SX × (Nat → Int64)) => wL h c o co u.1 u.2) u) t) (va_A (wL h c o co st ov) sz)) 1 6 (va_A (wL h c o co st ov) sz) := by
  refine zmW (Qf := fun A => va_Qi (fun r (u : SX × (Nat → Int64)) => r = (f_runX st p0).1 ∧ u.1 = (f_runX st p0).2.2 ∧ ((f_runX st p0).1 = (0 : Int32) → u.2 0 = (f_runX st p0).2.1.toInt64)) (fun (u : SX × (Nat → Int64)) t => zw_at D vwCl A ((fun (u : SX × (Nat → Int64)) => wL h c o co u.1 u.2) u) t) A) (Zf := fun A => zh za zk zv A) (cc := c_L_run) (nL := 4) (ret := (some .int)) (hh := [(0, 9, 12, 13), (0, 9, 15, 31)]) (by decide) rfl (Nat.le_of_ble_eq_true rfl) ?_
  intro p e s m below meth c9 A H locs ls hx hb hml hown hts hr hlocks hA hK hP hD hS hZ hl hex
  have hl : lv_has ls 4 [(0, .ref (h 6)), (1, .int p0), (2, .ref o)] := hl
  have ht : ∀ w9 ∈ zT, w9.before _ s = true := fun w9 h9 => hts w9 (List.mem_cons_of_mem _ h9)
  refine lv_aload_n hx hb d_L_run_0 rfl (lv_at hl 2 rfl) ?_
  refine lv_iconst (v := (0 : Int32)) hx hb d_L_run_1 (by decide) ?_
  refine lv_aload_n hx hb d_L_run_2 rfl (lv_at hl 0 rfl) ?_
  refine lv_iload_n hx hb d_L_run_3 rfl (lv_at hl 1 rfl) ?_
  refine zhc_i (w2 := fun u9 => wL h c o co u9 ov) (w3 := fun u9 => wL h c o co u9 ov) (vx_runV (As := [.int p0]) (rest := [.int (0 : Int32), .ref o]) ⟨hx, hb, hml, hown, ht⟩ (mt_X_run l hlt D za zk zv h c H.size st p0 hW) (cwV 1 ht (zgV zw_496 zw_497 zw_498 zw_1 zw_499) rfl rfl rfl kd_X_run ⟨Nat.le_of_ble_eq_true rfl, Nat.le_of_ble_eq_true rfl⟩) ⟨zw_blind zy_bl, va_recv (hK.sub (tys' := [(c 0, .int), (c 1, .int), (c 2, .char)]) [0, 1, 2] rfl) (hP.sub (ws' := wX h c st) [0, 1, 2, 3, 4, 5, 6, 7, 8] rfl) (ci := 5) (q0 := 0) rfl rfl, zw_go (hP.sub (ws' := wX h c st) [0, 1, 2, 3, 4, 5, 6, 7, 8] rfl) (hD.sub (ws' := wX h c st) [0, 1, 2, 3, 4, 5, 6, 7, 8] (by decide) rfl) (hK.sub (tys' := [(c 0, .int), (c 1, .int), (c 2, .char)]) [0, 1, 2] rfl) (fun U hU hW9 => zy_go hZ.1 hS (va_free (wc := wX h c st) hD hS hA [0, 1, 2, 3, 4, 5, 6, 7, 8] rfl) hU hW9)⟩ rfl rfl hl.1 rfl (lv_room (Nat.le_of_ble_eq_true rfl)) d_L_run_4 ⟨Nat.le_of_ble_eq_true rfl, Nat.le_of_ble_eq_true rfl⟩) hP hD hS hA [0, 1, 2, 3, 4, 5, 6, 7, 8] [9] [1, 2, 3, 4, 5, 6, 7, 8, 9, 0] rfl rfl (by decide) (by decide) (by decide) (fun _ => rfl) (fun _ => rfl) (fun E ce q9 u H locs hp hE hP hD hS hce hcv hcl => ?_) (fun r u H locs hw hP hD hS => ?_)
  · rcases (cd_run st p0).resolve_left hp.1 with k1 | k1
    · have hE : E = "java/lang/IllegalArgumentException" := hE.trans (by rw [k1]; rfl)
      subst hE
      refine vx_catch hown [] (⟨0, 9, 12, 13⟩ : ExceptionTableEntry) [(⟨0, 9, 15, 31⟩ : ExceptionTableEntry)] hex (fun z hz => nomatch hz) (by decide) (by decide) (ht _ zw_191) (zyB_ok hZ.1 _ (List.mem_of_getElem? (i := 0) rfl)) hce hcv hcl ?_
      refine lv_astore_n (lv' := [(3, .ref q9), (0, .ref (h 6)), (1, .int p0), (2, .ref o)]) hx hb d_L_run_12 rfl hl (by decide) rfl (fun ls hl => ?_)
      refine lv_iconst (v := (1 : Int32)) hx hb d_L_run_13 (by decide) ?_
      exact zl_i (u := (u, ov)) hx hb hr hlocks hS hP hD ⟨k1.symm, hp.2, fun z => absurd z hp.1⟩ d_L_run_14
    · have hE : E = "java/lang/IllegalStateException" := hE.trans (by rw [k1]; rfl)
      subst hE
      refine vx_catch hown [(⟨0, 9, 12, 13⟩ : ExceptionTableEntry)] (⟨0, 9, 15, 31⟩ : ExceptionTableEntry) [] hex (fun z hz => Or.inr (by rw [List.mem_singleton] at hz; subst hz; exact ⟨by decide, "java/lang/IllegalArgumentException", ht _ zw_191, hZ.2.2⟩)) (by decide) (by decide) (ht _ zw_495) (zyB_ok hZ.1 _ (List.mem_of_getElem? (i := 8) rfl)) hce hcv hcl ?_
      refine lv_astore_n (lv' := [(3, .ref q9), (0, .ref (h 6)), (1, .int p0), (2, .ref o)]) hx hb d_L_run_15 rfl hl (by decide) rfl (fun ls hl => ?_)
      refine lv_iconst (v := (2 : Int32)) hx hb d_L_run_16 (by decide) ?_
      exact zl_i (u := (u, ov)) hx hb hr hlocks hS hP hD ⟨k1.symm, hp.2, fun z => absurd z hp.1⟩ d_L_run_17
  refine lv_i2l (v := r.toInt64) hx hb d_L_run_7 rfl ?_
  refine va_last hx hb hK hP hD hS 9 3 rfl rfl (by unfold vp_in; decide) d_L_run_8 (fun H locs hP hD hS => ?_)
  have hP : va_P D vwCl (wL h c o co u (vp_updL ov (0 : Int32).toNatClampNeg r.toInt64)) H := hP
  have hD : va_D A (wL h c o co u (vp_updL ov (0 : Int32).toNatClampNeg r.toInt64)) := hD
  refine lv_goto (tgt := 18) hx hb d_L_run_9 (by decide) ?_
  refine lv_iconst (v := (0 : Int32)) hx hb d_L_run_18 (by decide) ?_
  exact zl_i (u := (u, vp_updL ov (0 : Int32).toNatClampNeg r.toInt64)) hx hb hr hlocks hS hP hD ⟨hw.1.symm, hw.2.2, fun _ => by rw [← hw.2.1]; rfl⟩ d_L_run_19
abbrev w_L_start : List Cond := .codeWith y_L_start c_L_start 4 (some .int) [(0, 9, 12, 13)] :: zT
theorem d_L_start_0 : decode c_L_start 0 = .ok (.aload_n 2, 1) := by decide +kernel
theorem d_L_start_1 : decode c_L_start 1 = .ok (.iconst 0, 1) := by decide +kernel
theorem d_L_start_2 : decode c_L_start 2 = .ok (.aload_n 0, 1) := by decide +kernel
theorem d_L_start_3 : decode c_L_start 3 = .ok (.iload_n 1, 1) := by decide +kernel
theorem d_L_start_4 : decode c_L_start 4 = .ok (.invokevirtual 33, 3) := by decide +kernel
theorem d_L_start_7 : decode c_L_start 7 = .ok (.i2l, 1) := by decide +kernel
theorem d_L_start_8 : decode c_L_start 8 = .ok (.lastore, 1) := by decide +kernel
theorem d_L_start_9 : decode c_L_start 9 = .ok (.goto 6, 3) := by decide +kernel
theorem d_L_start_12 : decode c_L_start 12 = .ok (.astore_n 3, 1) := by decide +kernel
theorem d_L_start_13 : decode c_L_start 13 = .ok (.iconst 1, 1) := by decide +kernel
theorem d_L_start_14 : decode c_L_start 14 = .ok (.ireturn, 1) := by decide +kernel
theorem d_L_start_15 : decode c_L_start 15 = .ok (.iconst 0, 1) := by decide +kernel
theorem d_L_start_16 : decode c_L_start 16 = .ok (.ireturn, 1) := by decide +kernel
theorem kd_L_start : (y_L_start).cls = "WindowMachineLaw" ∧ (y_L_start).cls ≠ "java/lang/invoke/MethodHandle" ∧ (y_L_start).cls ≠ "java/lang/invoke/VarHandle" ∧ (parseMethodDescriptor (y_L_start).desc).map (fun d => d.parameters.length) = some 3 := by decide +kernel
set_option maxHeartbeats 4000000 in
set_option maxRecDepth 100000 in
theorem mt_L_start (l : Launch) (hlt : l.stackTraces = false) (D : va_G) (za zk zv : Nat → Nat) (h : Nat → Nat) (c : Nat → ClassId) (o : Nat) (co : ClassId) (sz : Nat) (st : SX) (ov : Nat → Int64) (p0 : Int32)  : Met l y_L_start w_L_start ({ frames := 7, cells := 1, slots := 6, locals := 108 }) (va_Pc [.ref (h 6), .int p0, .ref o] (zw_pre D vwCl [(c 0, .int), (c 1, .int), (c 2, .char), (co, .long)] sz (wL h c o co st ov) (zh za zk zv (va_A (wL h c o co st ov) sz)))) (va_Qi (fun r (u : SX × (Nat → Int64)) => r = (f_startX st p0).1 ∧ u.1 = (f_startX st p0).2.2 ∧ ((f_startX st p0).1 = (0 : Int32) → u.2 0 = (f_startX st p0).2.1.toInt64)) (fun (u : SX × (Nat → Int64)) t => zw_at D vwCl (va_A (wL h c o co st ov) sz) ((fun (u : SX × (Nat → Int64)) => wL h c o co u.1 u.2) u) t) (va_A (wL h c o co st ov) sz)) 1 6 (va_A (wL h c o co st ov) sz) := by
  refine zmW (Qf := fun A => va_Qi (fun r (u : SX × (Nat → Int64)) => r = (f_startX st p0).1 ∧ u.1 = (f_startX st p0).2.2 ∧ ((f_startX st p0).1 = (0 : Int32) → u.2 0 = (f_startX st p0).2.1.toInt64)) (fun (u : SX × (Nat → Int64)) t => zw_at D vwCl A ((fun (u : SX × (Nat → Int64)) => wL h c o co u.1 u.2) u) t) A) (Zf := fun A => zh za zk zv A) (cc := c_L_start) (nL := 4) (ret := (some .int)) (hh := [(0, 9, 12, 13)]) (by decide) rfl (Nat.le_of_ble_eq_true rfl) ?_
  intro p e s m below meth c9 A H locs ls hx hb hml hown hts hr hlocks hA hK hP hD hS hZ hl hex
  have hl : lv_has ls 4 [(0, .ref (h 6)), (1, .int p0), (2, .ref o)] := hl
  have ht : ∀ w9 ∈ zT, w9.before _ s = true := fun w9 h9 => hts w9 (List.mem_cons_of_mem _ h9)
  refine lv_aload_n hx hb d_L_start_0 rfl (lv_at hl 2 rfl) ?_
  refine lv_iconst (v := (0 : Int32)) hx hb d_L_start_1 (by decide) ?_
  refine lv_aload_n hx hb d_L_start_2 rfl (lv_at hl 0 rfl) ?_
  refine lv_iload_n hx hb d_L_start_3 rfl (lv_at hl 1 rfl) ?_
  refine zhc_i (w2 := fun u9 => wL h c o co u9 ov) (w3 := fun u9 => wL h c o co u9 ov) (vx_runV (As := [.int p0]) (rest := [.int (0 : Int32), .ref o]) ⟨hx, hb, hml, hown, ht⟩ (mt_X_start l hlt D za zk zv h c H.size st p0) (cwV 1 ht (zgV zw_707 zw_708 zw_709 zw_1 zw_710) rfl rfl rfl kd_X_start ⟨Nat.le_of_ble_eq_true rfl, Nat.le_of_ble_eq_true rfl⟩) ⟨zw_blind zy_bl, va_recv (hK.sub (tys' := [(c 0, .int), (c 1, .int), (c 2, .char)]) [0, 1, 2] rfl) (hP.sub (ws' := wX h c st) [0, 1, 2, 3, 4, 5, 6, 7, 8] rfl) (ci := 5) (q0 := 0) rfl rfl, zw_go (hP.sub (ws' := wX h c st) [0, 1, 2, 3, 4, 5, 6, 7, 8] rfl) (hD.sub (ws' := wX h c st) [0, 1, 2, 3, 4, 5, 6, 7, 8] (by decide) rfl) (hK.sub (tys' := [(c 0, .int), (c 1, .int), (c 2, .char)]) [0, 1, 2] rfl) (fun U hU hW9 => zy_go hZ.1 hS (va_free (wc := wX h c st) hD hS hA [0, 1, 2, 3, 4, 5, 6, 7, 8] rfl) hU hW9)⟩ rfl rfl hl.1 rfl (lv_room (Nat.le_of_ble_eq_true rfl)) d_L_start_4 ⟨Nat.le_of_ble_eq_true rfl, Nat.le_of_ble_eq_true rfl⟩) hP hD hS hA [0, 1, 2, 3, 4, 5, 6, 7, 8] [9] [1, 2, 3, 4, 5, 6, 7, 8, 9, 0] rfl rfl (by decide) (by decide) (by decide) (fun _ => rfl) (fun _ => rfl) (fun E ce q9 u H locs hp hE hP hD hS hce hcv hcl => ?_) (fun r u H locs hw hP hD hS => ?_)
  · have k1 := (cd_start st p0).resolve_left hp.1
    have hE : E = "java/lang/IllegalArgumentException" := hE
    subst hE
    refine vx_catch hown [] (⟨0, 9, 12, 13⟩ : ExceptionTableEntry) [] hex (fun z hz => nomatch hz) (by decide) (by decide) (ht _ zw_191) (zyB_ok hZ.1 _ (List.mem_of_getElem? (i := 0) rfl)) hce hcv hcl ?_
    refine lv_astore_n (lv' := [(3, .ref q9), (0, .ref (h 6)), (1, .int p0), (2, .ref o)]) hx hb d_L_start_12 rfl hl (by decide) rfl (fun ls hl => ?_)
    refine lv_iconst (v := (1 : Int32)) hx hb d_L_start_13 (by decide) ?_
    exact zl_i (u := (u, ov)) hx hb hr hlocks hS hP hD ⟨k1.symm, hp.2, fun z => absurd z hp.1⟩ d_L_start_14
  refine lv_i2l (v := r.toInt64) hx hb d_L_start_7 rfl ?_
  refine va_last hx hb hK hP hD hS 9 3 rfl rfl (by unfold vp_in; decide) d_L_start_8 (fun H locs hP hD hS => ?_)
  have hP : va_P D vwCl (wL h c o co u (vp_updL ov (0 : Int32).toNatClampNeg r.toInt64)) H := hP
  have hD : va_D A (wL h c o co u (vp_updL ov (0 : Int32).toNatClampNeg r.toInt64)) := hD
  refine lv_goto (tgt := 15) hx hb d_L_start_9 (by decide) ?_
  refine lv_iconst (v := (0 : Int32)) hx hb d_L_start_15 (by decide) ?_
  exact zl_i (u := (u, vp_updL ov (0 : Int32).toNatClampNeg r.toInt64)) hx hb hr hlocks hS hP hD ⟨hw.1.symm, hw.2.2, fun _ => by rw [← hw.2.1]; rfl⟩ d_L_start_16
abbrev w_L_set : List Cond := .codeWith y_L_set c_L_set 6 (some .int) [(0, 12, 15, 13)] :: zT
theorem d_L_set_0 : decode c_L_set 0 = .ok (.aload 4, 2) := by decide +kernel
theorem d_L_set_2 : decode c_L_set 2 = .ok (.iconst 0, 1) := by decide +kernel
theorem d_L_set_3 : decode c_L_set 3 = .ok (.aload_n 0, 1) := by decide +kernel
theorem d_L_set_4 : decode c_L_set 4 = .ok (.iload_n 1, 1) := by decide +kernel
theorem d_L_set_5 : decode c_L_set 5 = .ok (.iload_n 2, 1) := by decide +kernel
theorem d_L_set_6 : decode c_L_set 6 = .ok (.iload_n 3, 1) := by decide +kernel
theorem d_L_set_7 : decode c_L_set 7 = .ok (.invokevirtual 36, 3) := by decide +kernel
theorem d_L_set_10 : decode c_L_set 10 = .ok (.i2l, 1) := by decide +kernel
theorem d_L_set_11 : decode c_L_set 11 = .ok (.lastore, 1) := by decide +kernel
theorem d_L_set_12 : decode c_L_set 12 = .ok (.goto 7, 3) := by decide +kernel
theorem d_L_set_15 : decode c_L_set 15 = .ok (.astore 5, 2) := by decide +kernel
theorem d_L_set_17 : decode c_L_set 17 = .ok (.iconst 1, 1) := by decide +kernel
theorem d_L_set_18 : decode c_L_set 18 = .ok (.ireturn, 1) := by decide +kernel
theorem d_L_set_19 : decode c_L_set 19 = .ok (.iconst 0, 1) := by decide +kernel
theorem d_L_set_20 : decode c_L_set 20 = .ok (.ireturn, 1) := by decide +kernel
theorem kd_L_set : (y_L_set).cls = "WindowMachineLaw" ∧ (y_L_set).cls ≠ "java/lang/invoke/MethodHandle" ∧ (y_L_set).cls ≠ "java/lang/invoke/VarHandle" ∧ (parseMethodDescriptor (y_L_set).desc).map (fun d => d.parameters.length) = some 5 := by decide +kernel
set_option maxHeartbeats 4000000 in
set_option maxRecDepth 100000 in
theorem mt_L_set (l : Launch) (hlt : l.stackTraces = false) (D : va_G) (za zk zv : Nat → Nat) (h : Nat → Nat) (c : Nat → ClassId) (o : Nat) (co : ClassId) (sz : Nat) (st : SX) (ov : Nat → Int64) (p0 : Int32) (p1 : Int32) (p2 : Int32)  : Met l y_L_set w_L_set ({ frames := 8, cells := 1, slots := 6, locals := 131 }) (va_Pc [.ref (h 6), .int p0, .int p1, .int p2, .ref o] (zw_pre D vwCl [(c 0, .int), (c 1, .int), (c 2, .char), (co, .long)] sz (wL h c o co st ov) (zh za zk zv (va_A (wL h c o co st ov) sz)))) (va_Qi (fun r (u : SX × (Nat → Int64)) => r = (f_setX st p0 p1 p2).1 ∧ u.1 = (f_setX st p0 p1 p2).2.2 ∧ ((f_setX st p0 p1 p2).1 = (0 : Int32) → u.2 0 = (f_setX st p0 p1 p2).2.1.toInt64)) (fun (u : SX × (Nat → Int64)) t => zw_at D vwCl (va_A (wL h c o co st ov) sz) ((fun (u : SX × (Nat → Int64)) => wL h c o co u.1 u.2) u) t) (va_A (wL h c o co st ov) sz)) 1 6 (va_A (wL h c o co st ov) sz) := by
  refine zmW (Qf := fun A => va_Qi (fun r (u : SX × (Nat → Int64)) => r = (f_setX st p0 p1 p2).1 ∧ u.1 = (f_setX st p0 p1 p2).2.2 ∧ ((f_setX st p0 p1 p2).1 = (0 : Int32) → u.2 0 = (f_setX st p0 p1 p2).2.1.toInt64)) (fun (u : SX × (Nat → Int64)) t => zw_at D vwCl A ((fun (u : SX × (Nat → Int64)) => wL h c o co u.1 u.2) u) t) A) (Zf := fun A => zh za zk zv A) (cc := c_L_set) (nL := 6) (ret := (some .int)) (hh := [(0, 12, 15, 13)]) (by decide) rfl (Nat.le_of_ble_eq_true rfl) ?_
  intro p e s m below meth c9 A H locs ls hx hb hml hown hts hr hlocks hA hK hP hD hS hZ hl hex
  have hl : lv_has ls 6 [(0, .ref (h 6)), (1, .int p0), (2, .int p1), (3, .int p2), (4, .ref o)] := hl
  have ht : ∀ w9 ∈ zT, w9.before _ s = true := fun w9 h9 => hts w9 (List.mem_cons_of_mem _ h9)
  refine lv_aload hx hb d_L_set_0 (lv_at hl 4 rfl) ?_
  refine lv_iconst (v := (0 : Int32)) hx hb d_L_set_2 (by decide) ?_
  refine lv_aload_n hx hb d_L_set_3 rfl (lv_at hl 0 rfl) ?_
  refine lv_iload_n hx hb d_L_set_4 rfl (lv_at hl 1 rfl) ?_
  refine lv_iload_n hx hb d_L_set_5 rfl (lv_at hl 2 rfl) ?_
  refine lv_iload_n hx hb d_L_set_6 rfl (lv_at hl 3 rfl) ?_
  refine zhc_i (w2 := fun u9 => wL h c o co u9 ov) (w3 := fun u9 => wL h c o co u9 ov) (vx_runV (As := [.int p0, .int p1, .int p2]) (rest := [.int (0 : Int32), .ref o]) ⟨hx, hb, hml, hown, ht⟩ (mt_X_set l hlt D za zk zv h c H.size st p0 p1 p2) (cwV 3 ht (zgV zw_715 zw_716 zw_717 zw_1 zw_718) rfl rfl rfl kd_X_set ⟨Nat.le_of_ble_eq_true rfl, Nat.le_of_ble_eq_true rfl⟩) ⟨zw_blind zy_bl, va_recv (hK.sub (tys' := [(c 0, .int), (c 1, .int), (c 2, .char)]) [0, 1, 2] rfl) (hP.sub (ws' := wX h c st) [0, 1, 2, 3, 4, 5, 6, 7, 8] rfl) (ci := 5) (q0 := 0) rfl rfl, zw_go (hP.sub (ws' := wX h c st) [0, 1, 2, 3, 4, 5, 6, 7, 8] rfl) (hD.sub (ws' := wX h c st) [0, 1, 2, 3, 4, 5, 6, 7, 8] (by decide) rfl) (hK.sub (tys' := [(c 0, .int), (c 1, .int), (c 2, .char)]) [0, 1, 2] rfl) (fun U hU hW9 => zy_go hZ.1 hS (va_free (wc := wX h c st) hD hS hA [0, 1, 2, 3, 4, 5, 6, 7, 8] rfl) hU hW9)⟩ rfl rfl hl.1 rfl (lv_room (Nat.le_of_ble_eq_true rfl)) d_L_set_7 ⟨Nat.le_of_ble_eq_true rfl, Nat.le_of_ble_eq_true rfl⟩) hP hD hS hA [0, 1, 2, 3, 4, 5, 6, 7, 8] [9] [1, 2, 3, 4, 5, 6, 7, 8, 9, 0] rfl rfl (by decide) (by decide) (by decide) (fun _ => rfl) (fun _ => rfl) (fun E ce q9 u H locs hp hE hP hD hS hce hcv hcl => ?_) (fun r u H locs hw hP hD hS => ?_)
  · have k1 := (cd_set st p0 p1 p2).resolve_left hp.1
    have hE : E = "java/lang/IllegalArgumentException" := hE
    subst hE
    refine vx_catch hown [] (⟨0, 12, 15, 13⟩ : ExceptionTableEntry) [] hex (fun z hz => nomatch hz) (by decide) (by decide) (ht _ zw_191) (zyB_ok hZ.1 _ (List.mem_of_getElem? (i := 0) rfl)) hce hcv hcl ?_
    refine lv_astore (lv' := [(5, .ref q9), (0, .ref (h 6)), (1, .int p0), (2, .int p1), (3, .int p2), (4, .ref o)]) hx hb d_L_set_15 hl (by decide) rfl (fun ls hl => ?_)
    refine lv_iconst (v := (1 : Int32)) hx hb d_L_set_17 (by decide) ?_
    exact zl_i (u := (u, ov)) hx hb hr hlocks hS hP hD ⟨k1.symm, hp.2, fun z => absurd z hp.1⟩ d_L_set_18
  refine lv_i2l (v := r.toInt64) hx hb d_L_set_10 rfl ?_
  refine va_last hx hb hK hP hD hS 9 3 rfl rfl (by unfold vp_in; decide) d_L_set_11 (fun H locs hP hD hS => ?_)
  have hP : va_P D vwCl (wL h c o co u (vp_updL ov (0 : Int32).toNatClampNeg r.toInt64)) H := hP
  have hD : va_D A (wL h c o co u (vp_updL ov (0 : Int32).toNatClampNeg r.toInt64)) := hD
  refine lv_goto (tgt := 19) hx hb d_L_set_12 (by decide) ?_
  refine lv_iconst (v := (0 : Int32)) hx hb d_L_set_19 (by decide) ?_
  exact zl_i (u := (u, vp_updL ov (0 : Int32).toNatClampNeg r.toInt64)) hx hb hr hlocks hS hP hD ⟨hw.1.symm, hw.2.2, fun _ => by rw [← hw.2.1]; rfl⟩ d_L_set_20
abbrev w_L_register : List Cond := .codeWith y_L_register c_L_register 5 (some .int) [(0, 10, 13, 13)] :: zT
theorem d_L_register_0 : decode c_L_register 0 = .ok (.aload_n 3, 1) := by decide +kernel
theorem d_L_register_1 : decode c_L_register 1 = .ok (.iconst 0, 1) := by decide +kernel
theorem d_L_register_2 : decode c_L_register 2 = .ok (.aload_n 0, 1) := by decide +kernel
theorem d_L_register_3 : decode c_L_register 3 = .ok (.iload_n 1, 1) := by decide +kernel
theorem d_L_register_4 : decode c_L_register 4 = .ok (.iload_n 2, 1) := by decide +kernel
theorem d_L_register_5 : decode c_L_register 5 = .ok (.invokevirtual 40, 3) := by decide +kernel
theorem d_L_register_8 : decode c_L_register 8 = .ok (.i2l, 1) := by decide +kernel
theorem d_L_register_9 : decode c_L_register 9 = .ok (.lastore, 1) := by decide +kernel
theorem d_L_register_10 : decode c_L_register 10 = .ok (.goto 7, 3) := by decide +kernel
theorem d_L_register_13 : decode c_L_register 13 = .ok (.astore 4, 2) := by decide +kernel
theorem d_L_register_15 : decode c_L_register 15 = .ok (.iconst 1, 1) := by decide +kernel
theorem d_L_register_16 : decode c_L_register 16 = .ok (.ireturn, 1) := by decide +kernel
theorem d_L_register_17 : decode c_L_register 17 = .ok (.iconst 0, 1) := by decide +kernel
theorem d_L_register_18 : decode c_L_register 18 = .ok (.ireturn, 1) := by decide +kernel
theorem kd_L_register : (y_L_register).cls = "WindowMachineLaw" ∧ (y_L_register).cls ≠ "java/lang/invoke/MethodHandle" ∧ (y_L_register).cls ≠ "java/lang/invoke/VarHandle" ∧ (parseMethodDescriptor (y_L_register).desc).map (fun d => d.parameters.length) = some 4 := by decide +kernel
set_option maxHeartbeats 4000000 in
set_option maxRecDepth 100000 in
theorem mt_L_register (l : Launch) (hlt : l.stackTraces = false) (D : va_G) (za zk zv : Nat → Nat) (h : Nat → Nat) (c : Nat → ClassId) (o : Nat) (co : ClassId) (sz : Nat) (st : SX) (ov : Nat → Int64) (p0 : Int32) (p1 : Int32)  : Met l y_L_register w_L_register ({ frames := 8, cells := 1, slots := 6, locals := 129 }) (va_Pc [.ref (h 6), .int p0, .int p1, .ref o] (zw_pre D vwCl [(c 0, .int), (c 1, .int), (c 2, .char), (co, .long)] sz (wL h c o co st ov) (zh za zk zv (va_A (wL h c o co st ov) sz)))) (va_Qi (fun r (u : SX × (Nat → Int64)) => r = (f_registerX st p0 p1).1 ∧ u.1 = (f_registerX st p0 p1).2.2 ∧ ((f_registerX st p0 p1).1 = (0 : Int32) → u.2 0 = (f_registerX st p0 p1).2.1.toInt64)) (fun (u : SX × (Nat → Int64)) t => zw_at D vwCl (va_A (wL h c o co st ov) sz) ((fun (u : SX × (Nat → Int64)) => wL h c o co u.1 u.2) u) t) (va_A (wL h c o co st ov) sz)) 1 6 (va_A (wL h c o co st ov) sz) := by
  refine zmW (Qf := fun A => va_Qi (fun r (u : SX × (Nat → Int64)) => r = (f_registerX st p0 p1).1 ∧ u.1 = (f_registerX st p0 p1).2.2 ∧ ((f_registerX st p0 p1).1 = (0 : Int32) → u.2 0 = (f_registerX st p0 p1).2.1.toInt64)) (fun (u : SX × (Nat → Int64)) t => zw_at D vwCl A ((fun (u : SX × (Nat → Int64)) => wL h c o co u.1 u.2) u) t) A) (Zf := fun A => zh za zk zv A) (cc := c_L_register) (nL := 5) (ret := (some .int)) (hh := [(0, 10, 13, 13)]) (by decide) rfl (Nat.le_of_ble_eq_true rfl) ?_
  intro p e s m below meth c9 A H locs ls hx hb hml hown hts hr hlocks hA hK hP hD hS hZ hl hex
  have hl : lv_has ls 5 [(0, .ref (h 6)), (1, .int p0), (2, .int p1), (3, .ref o)] := hl
  have ht : ∀ w9 ∈ zT, w9.before _ s = true := fun w9 h9 => hts w9 (List.mem_cons_of_mem _ h9)
  refine lv_aload_n hx hb d_L_register_0 rfl (lv_at hl 3 rfl) ?_
  refine lv_iconst (v := (0 : Int32)) hx hb d_L_register_1 (by decide) ?_
  refine lv_aload_n hx hb d_L_register_2 rfl (lv_at hl 0 rfl) ?_
  refine lv_iload_n hx hb d_L_register_3 rfl (lv_at hl 1 rfl) ?_
  refine lv_iload_n hx hb d_L_register_4 rfl (lv_at hl 2 rfl) ?_
  refine zhc_i (w2 := fun u9 => wL h c o co u9 ov) (w3 := fun u9 => wL h c o co u9 ov) (vx_runV (As := [.int p0, .int p1]) (rest := [.int (0 : Int32), .ref o]) ⟨hx, hb, hml, hown, ht⟩ (mt_X_register l hlt D za zk zv h c H.size st p0 p1) (cwV 2 ht (zgV zw_728 zw_729 zw_730 zw_1 zw_731) rfl rfl rfl kd_X_register ⟨Nat.le_of_ble_eq_true rfl, Nat.le_of_ble_eq_true rfl⟩) ⟨zw_blind zy_bl, va_recv (hK.sub (tys' := [(c 0, .int), (c 1, .int), (c 2, .char)]) [0, 1, 2] rfl) (hP.sub (ws' := wX h c st) [0, 1, 2, 3, 4, 5, 6, 7, 8] rfl) (ci := 5) (q0 := 0) rfl rfl, zw_go (hP.sub (ws' := wX h c st) [0, 1, 2, 3, 4, 5, 6, 7, 8] rfl) (hD.sub (ws' := wX h c st) [0, 1, 2, 3, 4, 5, 6, 7, 8] (by decide) rfl) (hK.sub (tys' := [(c 0, .int), (c 1, .int), (c 2, .char)]) [0, 1, 2] rfl) (fun U hU hW9 => zy_go hZ.1 hS (va_free (wc := wX h c st) hD hS hA [0, 1, 2, 3, 4, 5, 6, 7, 8] rfl) hU hW9)⟩ rfl rfl hl.1 rfl (lv_room (Nat.le_of_ble_eq_true rfl)) d_L_register_5 ⟨Nat.le_of_ble_eq_true rfl, Nat.le_of_ble_eq_true rfl⟩) hP hD hS hA [0, 1, 2, 3, 4, 5, 6, 7, 8] [9] [1, 2, 3, 4, 5, 6, 7, 8, 9, 0] rfl rfl (by decide) (by decide) (by decide) (fun _ => rfl) (fun _ => rfl) (fun E ce q9 u H locs hp hE hP hD hS hce hcv hcl => ?_) (fun r u H locs hw hP hD hS => ?_)
  · have k1 := (cd_register st p0 p1).resolve_left hp.1
    have hE : E = "java/lang/IllegalArgumentException" := hE
    subst hE
    refine vx_catch hown [] (⟨0, 10, 13, 13⟩ : ExceptionTableEntry) [] hex (fun z hz => nomatch hz) (by decide) (by decide) (ht _ zw_191) (zyB_ok hZ.1 _ (List.mem_of_getElem? (i := 0) rfl)) hce hcv hcl ?_
    refine lv_astore (lv' := [(4, .ref q9), (0, .ref (h 6)), (1, .int p0), (2, .int p1), (3, .ref o)]) hx hb d_L_register_13 hl (by decide) rfl (fun ls hl => ?_)
    refine lv_iconst (v := (1 : Int32)) hx hb d_L_register_15 (by decide) ?_
    exact zl_i (u := (u, ov)) hx hb hr hlocks hS hP hD ⟨k1.symm, hp.2, fun z => absurd z hp.1⟩ d_L_register_16
  refine lv_i2l (v := r.toInt64) hx hb d_L_register_8 rfl ?_
  refine va_last hx hb hK hP hD hS 9 3 rfl rfl (by unfold vp_in; decide) d_L_register_9 (fun H locs hP hD hS => ?_)
  have hP : va_P D vwCl (wL h c o co u (vp_updL ov (0 : Int32).toNatClampNeg r.toInt64)) H := hP
  have hD : va_D A (wL h c o co u (vp_updL ov (0 : Int32).toNatClampNeg r.toInt64)) := hD
  refine lv_goto (tgt := 17) hx hb d_L_register_10 (by decide) ?_
  refine lv_iconst (v := (0 : Int32)) hx hb d_L_register_17 (by decide) ?_
  exact zl_i (u := (u, vp_updL ov (0 : Int32).toNatClampNeg r.toInt64)) hx hb hr hlocks hS hP hD ⟨hw.1.symm, hw.2.2, fun _ => by rw [← hw.2.1]; rfl⟩ d_L_register_18
abbrev w_L_state : List Cond := .codeWith y_L_state c_L_state 4 (some .int) [(0, 9, 12, 13)] :: zT
theorem d_L_state_0 : decode c_L_state 0 = .ok (.aload_n 2, 1) := by decide +kernel
theorem d_L_state_1 : decode c_L_state 1 = .ok (.iconst 0, 1) := by decide +kernel
theorem d_L_state_2 : decode c_L_state 2 = .ok (.aload_n 0, 1) := by decide +kernel
theorem d_L_state_3 : decode c_L_state 3 = .ok (.iload_n 1, 1) := by decide +kernel
theorem d_L_state_4 : decode c_L_state 4 = .ok (.invokevirtual 43, 3) := by decide +kernel
theorem d_L_state_7 : decode c_L_state 7 = .ok (.i2l, 1) := by decide +kernel
theorem d_L_state_8 : decode c_L_state 8 = .ok (.lastore, 1) := by decide +kernel
theorem d_L_state_9 : decode c_L_state 9 = .ok (.goto 6, 3) := by decide +kernel
theorem d_L_state_12 : decode c_L_state 12 = .ok (.astore_n 3, 1) := by decide +kernel
theorem d_L_state_13 : decode c_L_state 13 = .ok (.iconst 1, 1) := by decide +kernel
theorem d_L_state_14 : decode c_L_state 14 = .ok (.ireturn, 1) := by decide +kernel
theorem d_L_state_15 : decode c_L_state 15 = .ok (.iconst 0, 1) := by decide +kernel
theorem d_L_state_16 : decode c_L_state 16 = .ok (.ireturn, 1) := by decide +kernel
theorem kd_L_state : (y_L_state).cls = "WindowMachineLaw" ∧ (y_L_state).cls ≠ "java/lang/invoke/MethodHandle" ∧ (y_L_state).cls ≠ "java/lang/invoke/VarHandle" ∧ (parseMethodDescriptor (y_L_state).desc).map (fun d => d.parameters.length) = some 3 := by decide +kernel
set_option maxHeartbeats 4000000 in
set_option maxRecDepth 100000 in
theorem mt_L_state (l : Launch) (hlt : l.stackTraces = false) (D : va_G) (za zk zv : Nat → Nat) (h : Nat → Nat) (c : Nat → ClassId) (o : Nat) (co : ClassId) (sz : Nat) (st : SX) (ov : Nat → Int64) (p0 : Int32)  : Met l y_L_state w_L_state ({ frames := 7, cells := 1, slots := 6, locals := 107 }) (va_Pc [.ref (h 6), .int p0, .ref o] (zw_pre D vwCl [(c 0, .int), (c 1, .int), (c 2, .char), (co, .long)] sz (wL h c o co st ov) (zh za zk zv (va_A (wL h c o co st ov) sz)))) (va_Qi (fun r (u : SX × (Nat → Int64)) => r = (f_stateX st p0).1 ∧ u.1 = (f_stateX st p0).2.2 ∧ ((f_stateX st p0).1 = (0 : Int32) → u.2 0 = (f_stateX st p0).2.1.toInt64)) (fun (u : SX × (Nat → Int64)) t => zw_at D vwCl (va_A (wL h c o co st ov) sz) ((fun (u : SX × (Nat → Int64)) => wL h c o co u.1 u.2) u) t) (va_A (wL h c o co st ov) sz)) 1 6 (va_A (wL h c o co st ov) sz) := by
  refine zmW (Qf := fun A => va_Qi (fun r (u : SX × (Nat → Int64)) => r = (f_stateX st p0).1 ∧ u.1 = (f_stateX st p0).2.2 ∧ ((f_stateX st p0).1 = (0 : Int32) → u.2 0 = (f_stateX st p0).2.1.toInt64)) (fun (u : SX × (Nat → Int64)) t => zw_at D vwCl A ((fun (u : SX × (Nat → Int64)) => wL h c o co u.1 u.2) u) t) A) (Zf := fun A => zh za zk zv A) (cc := c_L_state) (nL := 4) (ret := (some .int)) (hh := [(0, 9, 12, 13)]) (by decide) rfl (Nat.le_of_ble_eq_true rfl) ?_
  intro p e s m below meth c9 A H locs ls hx hb hml hown hts hr hlocks hA hK hP hD hS hZ hl hex
  have hl : lv_has ls 4 [(0, .ref (h 6)), (1, .int p0), (2, .ref o)] := hl
  have ht : ∀ w9 ∈ zT, w9.before _ s = true := fun w9 h9 => hts w9 (List.mem_cons_of_mem _ h9)
  refine lv_aload_n hx hb d_L_state_0 rfl (lv_at hl 2 rfl) ?_
  refine lv_iconst (v := (0 : Int32)) hx hb d_L_state_1 (by decide) ?_
  refine lv_aload_n hx hb d_L_state_2 rfl (lv_at hl 0 rfl) ?_
  refine lv_iload_n hx hb d_L_state_3 rfl (lv_at hl 1 rfl) ?_
  refine zhc_i (w2 := fun u9 => wL h c o co u9 ov) (w3 := fun u9 => wL h c o co u9 ov) (vx_runV (As := [.int p0]) (rest := [.int (0 : Int32), .ref o]) ⟨hx, hb, hml, hown, ht⟩ (mt_X_state l hlt D za zk zv h c H.size st p0) (cwV 1 ht (zgV zw_735 zw_736 zw_737 zw_1 zw_738) rfl rfl rfl kd_X_state ⟨Nat.le_of_ble_eq_true rfl, Nat.le_of_ble_eq_true rfl⟩) ⟨zw_blind zy_bl, va_recv (hK.sub (tys' := [(c 0, .int), (c 1, .int), (c 2, .char)]) [0, 1, 2] rfl) (hP.sub (ws' := wX h c st) [0, 1, 2, 3, 4, 5, 6, 7, 8] rfl) (ci := 5) (q0 := 0) rfl rfl, zw_go (hP.sub (ws' := wX h c st) [0, 1, 2, 3, 4, 5, 6, 7, 8] rfl) (hD.sub (ws' := wX h c st) [0, 1, 2, 3, 4, 5, 6, 7, 8] (by decide) rfl) (hK.sub (tys' := [(c 0, .int), (c 1, .int), (c 2, .char)]) [0, 1, 2] rfl) (fun U hU hW9 => zy_go hZ.1 hS (va_free (wc := wX h c st) hD hS hA [0, 1, 2, 3, 4, 5, 6, 7, 8] rfl) hU hW9)⟩ rfl rfl hl.1 rfl (lv_room (Nat.le_of_ble_eq_true rfl)) d_L_state_4 ⟨Nat.le_of_ble_eq_true rfl, Nat.le_of_ble_eq_true rfl⟩) hP hD hS hA [0, 1, 2, 3, 4, 5, 6, 7, 8] [9] [1, 2, 3, 4, 5, 6, 7, 8, 9, 0] rfl rfl (by decide) (by decide) (by decide) (fun _ => rfl) (fun _ => rfl) (fun E ce q9 u H locs hp hE hP hD hS hce hcv hcl => ?_) (fun r u H locs hw hP hD hS => ?_)
  · have k1 := (cd_state st p0).resolve_left hp.1
    have hE : E = "java/lang/IllegalArgumentException" := hE
    subst hE
    refine vx_catch hown [] (⟨0, 9, 12, 13⟩ : ExceptionTableEntry) [] hex (fun z hz => nomatch hz) (by decide) (by decide) (ht _ zw_191) (zyB_ok hZ.1 _ (List.mem_of_getElem? (i := 0) rfl)) hce hcv hcl ?_
    refine lv_astore_n (lv' := [(3, .ref q9), (0, .ref (h 6)), (1, .int p0), (2, .ref o)]) hx hb d_L_state_12 rfl hl (by decide) rfl (fun ls hl => ?_)
    refine lv_iconst (v := (1 : Int32)) hx hb d_L_state_13 (by decide) ?_
    exact zl_i (u := (u, ov)) hx hb hr hlocks hS hP hD ⟨k1.symm, hp.2, fun z => absurd z hp.1⟩ d_L_state_14
  refine lv_i2l (v := r.toInt64) hx hb d_L_state_7 rfl ?_
  refine va_last hx hb hK hP hD hS 9 3 rfl rfl (by unfold vp_in; decide) d_L_state_8 (fun H locs hP hD hS => ?_)
  have hP : va_P D vwCl (wL h c o co u (vp_updL ov (0 : Int32).toNatClampNeg r.toInt64)) H := hP
  have hD : va_D A (wL h c o co u (vp_updL ov (0 : Int32).toNatClampNeg r.toInt64)) := hD
  refine lv_goto (tgt := 15) hx hb d_L_state_9 (by decide) ?_
  refine lv_iconst (v := (0 : Int32)) hx hb d_L_state_15 (by decide) ?_
  exact zl_i (u := (u, vp_updL ov (0 : Int32).toNatClampNeg r.toInt64)) hx hb hr hlocks hS hP hD ⟨hw.1.symm, hw.2.2, fun _ => by rw [← hw.2.1]; rfl⟩ d_L_state_16
abbrev w_L_mode : List Cond := .codeWith y_L_mode c_L_mode 8 (some .int) [(0, 16, 19, 13)] :: zT
theorem d_L_mode_0 : decode c_L_mode 0 = .ok (.aload 6, 2) := by decide +kernel
theorem d_L_mode_2 : decode c_L_mode 2 = .ok (.iconst 0, 1) := by decide +kernel
theorem d_L_mode_3 : decode c_L_mode 3 = .ok (.aload_n 0, 1) := by decide +kernel
theorem d_L_mode_4 : decode c_L_mode 4 = .ok (.iload_n 1, 1) := by decide +kernel
theorem d_L_mode_5 : decode c_L_mode 5 = .ok (.iload_n 2, 1) := by decide +kernel
theorem d_L_mode_6 : decode c_L_mode 6 = .ok (.iload_n 3, 1) := by decide +kernel
theorem d_L_mode_7 : decode c_L_mode 7 = .ok (.iload 4, 2) := by decide +kernel
theorem d_L_mode_9 : decode c_L_mode 9 = .ok (.iload 5, 2) := by decide +kernel
theorem d_L_mode_11 : decode c_L_mode 11 = .ok (.invokevirtual 46, 3) := by decide +kernel
theorem d_L_mode_14 : decode c_L_mode 14 = .ok (.i2l, 1) := by decide +kernel
theorem d_L_mode_15 : decode c_L_mode 15 = .ok (.lastore, 1) := by decide +kernel
theorem d_L_mode_16 : decode c_L_mode 16 = .ok (.goto 7, 3) := by decide +kernel
theorem d_L_mode_19 : decode c_L_mode 19 = .ok (.astore 7, 2) := by decide +kernel
theorem d_L_mode_21 : decode c_L_mode 21 = .ok (.iconst 1, 1) := by decide +kernel
theorem d_L_mode_22 : decode c_L_mode 22 = .ok (.ireturn, 1) := by decide +kernel
theorem d_L_mode_23 : decode c_L_mode 23 = .ok (.iconst 0, 1) := by decide +kernel
theorem d_L_mode_24 : decode c_L_mode 24 = .ok (.ireturn, 1) := by decide +kernel
theorem kd_L_mode : (y_L_mode).cls = "WindowMachineLaw" ∧ (y_L_mode).cls ≠ "java/lang/invoke/MethodHandle" ∧ (y_L_mode).cls ≠ "java/lang/invoke/VarHandle" ∧ (parseMethodDescriptor (y_L_mode).desc).map (fun d => d.parameters.length) = some 7 := by decide +kernel
set_option maxHeartbeats 4000000 in
set_option maxRecDepth 100000 in
theorem mt_L_mode (l : Launch) (hlt : l.stackTraces = false) (D : va_G) (za zk zv : Nat → Nat) (h : Nat → Nat) (c : Nat → ClassId) (o : Nat) (co : ClassId) (sz : Nat) (st : SX) (ov : Nat → Int64) (p0 : Int32) (p1 : Int32) (p2 : Int32) (p3 : Int32) (p4 : Int32)  : Met l y_L_mode w_L_mode ({ frames := 7, cells := 1, slots := 6, locals := 111 }) (va_Pc [.ref (h 6), .int p0, .int p1, .int p2, .int p3, .int p4, .ref o] (zw_pre D vwCl [(c 0, .int), (c 1, .int), (c 2, .char), (co, .long)] sz (wL h c o co st ov) (zh za zk zv (va_A (wL h c o co st ov) sz)))) (va_Qi (fun r (u : SX × (Nat → Int64)) => r = (f_modeX st p0 p1 p2 p3 p4).1 ∧ u.1 = (f_modeX st p0 p1 p2 p3 p4).2.2 ∧ ((f_modeX st p0 p1 p2 p3 p4).1 = (0 : Int32) → u.2 0 = (f_modeX st p0 p1 p2 p3 p4).2.1.toInt64)) (fun (u : SX × (Nat → Int64)) t => zw_at D vwCl (va_A (wL h c o co st ov) sz) ((fun (u : SX × (Nat → Int64)) => wL h c o co u.1 u.2) u) t) (va_A (wL h c o co st ov) sz)) 1 6 (va_A (wL h c o co st ov) sz) := by
  refine zmW (Qf := fun A => va_Qi (fun r (u : SX × (Nat → Int64)) => r = (f_modeX st p0 p1 p2 p3 p4).1 ∧ u.1 = (f_modeX st p0 p1 p2 p3 p4).2.2 ∧ ((f_modeX st p0 p1 p2 p3 p4).1 = (0 : Int32) → u.2 0 = (f_modeX st p0 p1 p2 p3 p4).2.1.toInt64)) (fun (u : SX × (Nat → Int64)) t => zw_at D vwCl A ((fun (u : SX × (Nat → Int64)) => wL h c o co u.1 u.2) u) t) A) (Zf := fun A => zh za zk zv A) (cc := c_L_mode) (nL := 8) (ret := (some .int)) (hh := [(0, 16, 19, 13)]) (by decide) rfl (Nat.le_of_ble_eq_true rfl) ?_
  intro p e s m below meth c9 A H locs ls hx hb hml hown hts hr hlocks hA hK hP hD hS hZ hl hex
  have hl : lv_has ls 8 [(0, .ref (h 6)), (1, .int p0), (2, .int p1), (3, .int p2), (4, .int p3), (5, .int p4), (6, .ref o)] := hl
  have ht : ∀ w9 ∈ zT, w9.before _ s = true := fun w9 h9 => hts w9 (List.mem_cons_of_mem _ h9)
  refine lv_aload hx hb d_L_mode_0 (lv_at hl 6 rfl) ?_
  refine lv_iconst (v := (0 : Int32)) hx hb d_L_mode_2 (by decide) ?_
  refine lv_aload_n hx hb d_L_mode_3 rfl (lv_at hl 0 rfl) ?_
  refine lv_iload_n hx hb d_L_mode_4 rfl (lv_at hl 1 rfl) ?_
  refine lv_iload_n hx hb d_L_mode_5 rfl (lv_at hl 2 rfl) ?_
  refine lv_iload_n hx hb d_L_mode_6 rfl (lv_at hl 3 rfl) ?_
  refine lv_iload hx hb d_L_mode_7 (lv_at hl 4 rfl) ?_
  refine lv_iload hx hb d_L_mode_9 (lv_at hl 5 rfl) ?_
  refine zhc_i (w2 := fun u9 => wL h c o co u9 ov) (w3 := fun u9 => wL h c o co u9 ov) (vx_runV (As := [.int p0, .int p1, .int p2, .int p3, .int p4]) (rest := [.int (0 : Int32), .ref o]) ⟨hx, hb, hml, hown, ht⟩ (mt_X_mode l hlt D za zk zv h c H.size st p0 p1 p2 p3 p4) (cwV 5 ht (zgV zw_747 zw_748 zw_749 zw_1 zw_750) rfl rfl rfl kd_X_mode ⟨Nat.le_of_ble_eq_true rfl, Nat.le_of_ble_eq_true rfl⟩) ⟨zw_blind zy_bl, va_recv (hK.sub (tys' := [(c 0, .int), (c 1, .int), (c 2, .char)]) [0, 1, 2] rfl) (hP.sub (ws' := wX h c st) [0, 1, 2, 3, 4, 5, 6, 7, 8] rfl) (ci := 5) (q0 := 0) rfl rfl, zw_go (hP.sub (ws' := wX h c st) [0, 1, 2, 3, 4, 5, 6, 7, 8] rfl) (hD.sub (ws' := wX h c st) [0, 1, 2, 3, 4, 5, 6, 7, 8] (by decide) rfl) (hK.sub (tys' := [(c 0, .int), (c 1, .int), (c 2, .char)]) [0, 1, 2] rfl) (fun U hU hW9 => zy_go hZ.1 hS (va_free (wc := wX h c st) hD hS hA [0, 1, 2, 3, 4, 5, 6, 7, 8] rfl) hU hW9)⟩ rfl rfl hl.1 rfl (lv_room (Nat.le_of_ble_eq_true rfl)) d_L_mode_11 ⟨Nat.le_of_ble_eq_true rfl, Nat.le_of_ble_eq_true rfl⟩) hP hD hS hA [0, 1, 2, 3, 4, 5, 6, 7, 8] [9] [1, 2, 3, 4, 5, 6, 7, 8, 9, 0] rfl rfl (by decide) (by decide) (by decide) (fun _ => rfl) (fun _ => rfl) (fun E ce q9 u H locs hp hE hP hD hS hce hcv hcl => ?_) (fun r u H locs hw hP hD hS => ?_)
  · have k1 := (cd_mode st p0 p1 p2 p3 p4).resolve_left hp.1
    have hE : E = "java/lang/IllegalArgumentException" := hE
    subst hE
    refine vx_catch hown [] (⟨0, 16, 19, 13⟩ : ExceptionTableEntry) [] hex (fun z hz => nomatch hz) (by decide) (by decide) (ht _ zw_191) (zyB_ok hZ.1 _ (List.mem_of_getElem? (i := 0) rfl)) hce hcv hcl ?_
    refine lv_astore (lv' := [(7, .ref q9), (0, .ref (h 6)), (1, .int p0), (2, .int p1), (3, .int p2), (4, .int p3), (5, .int p4), (6, .ref o)]) hx hb d_L_mode_19 hl (by decide) rfl (fun ls hl => ?_)
    refine lv_iconst (v := (1 : Int32)) hx hb d_L_mode_21 (by decide) ?_
    exact zl_i (u := (u, ov)) hx hb hr hlocks hS hP hD ⟨k1.symm, hp.2, fun z => absurd z hp.1⟩ d_L_mode_22
  refine lv_i2l (v := r.toInt64) hx hb d_L_mode_14 rfl ?_
  refine va_last hx hb hK hP hD hS 9 3 rfl rfl (by unfold vp_in; decide) d_L_mode_15 (fun H locs hP hD hS => ?_)
  have hP : va_P D vwCl (wL h c o co u (vp_updL ov (0 : Int32).toNatClampNeg r.toInt64)) H := hP
  have hD : va_D A (wL h c o co u (vp_updL ov (0 : Int32).toNatClampNeg r.toInt64)) := hD
  refine lv_goto (tgt := 23) hx hb d_L_mode_16 (by decide) ?_
  refine lv_iconst (v := (0 : Int32)) hx hb d_L_mode_23 (by decide) ?_
  exact zl_i (u := (u, vp_updL ov (0 : Int32).toNatClampNeg r.toInt64)) hx hb hr hlocks hS hP hD ⟨hw.1.symm, hw.2.2, fun _ => by rw [← hw.2.1]; rfl⟩ d_L_mode_24
