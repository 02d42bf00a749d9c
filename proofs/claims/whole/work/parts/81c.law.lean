set_option maxHeartbeats 4000000 in
set_option maxRecDepth 100000 in
theorem ar_assemble {p : Program} {l : Launch} {e : Env} {s : State} {m : MethodId} {below : List Frame} {meth : Method} {c : Code} {D : va_G} {b L : Nat} {xs : Nat → Int32} {za zk zv : Nat → Nat} {g1 g2 : Nat → Nat} {k1 k2 : Nat → ClassId} {o : Nat} {co : ClassId} (hlt : l.stackTraces = false) (hx : p.tables.exec = Jvm.exec) (hb : c.code = code) (hml : c.maxLocals = 7) (hown : s.vm.findClass "WindowMachineLaw" = some m.cls) (ht : ∀ w9 ∈ zT, w9.before #[Value.ref b] s = true) (hX : va_X b L xs s s.heap) (hbl : b < s.heap.size) (hL : L ≤ 3072) (hZ : zh za zk zv (fun q : Nat => s.heap.size ≤ q) s) (hK : va_K D vwCl (tyZ k1 k2 co) s) {i cells slots : Nat} {st : SX} {d : SD} {ov : Nat → Int64} {H : Heap} {locs : List Loc} {ls : Array Slot} {Q : State → Prop} (hi : i + 6 ≤ L) (hc : cells + 1 ≤ 1053) (hs : slots + 6 ≤ 10093) (hRW : RW st d) (hP : va_P D vwCl (wZ g1 k1 g2 k2 o co st d ov) H) (hD : va_D (fun q : Nat => s.heap.size ≤ q) (wZ g1 k1 g2 k2 o co st d ov)) (hS : va_S (fun q : Nat => s.heap.size ≤ q) s.heap H locs) (hl : lv_has ls 7 [(0, .ref b), (1, .ref (g1 6)), (2, .ref (g2 20)), (3, .ref o), (4, .int (nI i))])
    (kk : ∀ (st : SX) (d : SD) (ov : Nat → Int64) (H : Heap) (locs : List Loc) (ls : Array Slot), RW st d → va_P D vwCl (wZ g1 k1 g2 k2 o co st d ov) H → va_D (fun q : Nat => s.heap.size ≤ q) (wZ g1 k1 g2 k2 o co st d ov) → va_S (fun q : Nat => s.heap.size ≤ q) s.heap H locs → lv_has ls 7 [(0, .ref b), (1, .ref (g1 6)), (2, .ref (g2 20)), (3, .ref o), (4, .int (nI i))] → W p l e room_1 s m #[Value.ref b] below meth c H locs (cells + 1) (slots + 6) Q (F0 m 801 ls [])) : W p l e room_1 s m #[Value.ref b] below meth c H locs cells slots Q (F0 m 188 ls []) := by
  have hA : ∀ q : Nat, s.heap.size ≤ q → (fun q : Nat => s.heap.size ≤ q) q := fun _ h => h
  have hbA : ¬ (fun q : Nat => s.heap.size ≤ q) b := Nat.not_le.mpr hbl
  refine lv_aload_n hx hb d_law_188 rfl (lv_at hl 1 rfl) ?_
  refine lv_aload_n hx hb d_law_189 rfl (lv_at hl 0 rfl) ?_
  refine lv_iload hx hb d_law_190 (lv_at hl 4 rfl) ?_
  refine lv_iconst (v := (1 : Int32)) hx hb d_law_192 (by decide) ?_
  refine lv_iadd hx hb d_law_193 ?_
  refine va_sld hx hb hX hbl hbA hS (ix_in (i := i) (k := 1) (L := L) (v := (1 : Int32)) (by decide) (by omega) hL) d_law_194 ?_
  refine lv_aload_n hx hb d_law_195 rfl (lv_at hl 3 rfl) ?_
  refine zc_iM (w2 := fun u9 => wZ g1 k1 g2 k2 o co u9.1 d u9.2) (vx_runSW (As := [.ref (g1 6), .int (xs ((nI i) + (1 : Int32)).toNatClampNeg), .ref o]) (rest := []) ⟨hx, hb, hml, hown, ht⟩ (mt_L_assemble l hlt D za zk zv g1 k1 o co H.size st ov (xs ((nI i) + (1 : Int32)).toNatClampNeg) (rw_lenX hRW)) (vx_cwSW 3 ht (zgOW zw_295 zw_296 zw_0 zw_297) rfl rfl rfl kd_L_assemble.2 ⟨Nat.le_of_ble_eq_true rfl, Nat.le_of_ble_eq_true rfl⟩) ⟨zw_blind zh_bl, zw_go (hP.sub (ws' := wL g1 k1 o co st ov) [0, 1, 2, 3, 4, 5, 6, 7, 8, 18] rfl) (hD.sub (ws' := wL g1 k1 o co st ov) [0, 1, 2, 3, 4, 5, 6, 7, 8, 18] (by decide) rfl) (hK.sub (tys' := [(k1 0, .int), (k1 1, .int), (k1 2, .char), (co, .long)]) [0, 1, 2, 11] rfl) (fun U hU hW9 => zh_go hZ hS (va_free (wc := wL g1 k1 o co st ov) hD hS hA [0, 1, 2, 3, 4, 5, 6, 7, 8, 18] rfl) hU hW9)⟩ rfl rfl hl.1 rfl (lv_room (Nat.le_of_ble_eq_true rfl)) d_law_196 ⟨hc, hs⟩) hP hD hS hA [0, 1, 2, 3, 4, 5, 6, 7, 8, 18] [9, 10, 11, 12, 13, 14, 15, 16, 17] [9, 10, 11, 12, 13, 14, 15, 16, 17, 0, 1, 2, 3, 4, 5, 6, 7, 8, 18] rfl rfl (by decide) (by decide) (by decide) (fun _ => rfl) (fun r u H locs hw hP hD hS => ?_)
  have hP : va_P D vwCl (wZ g1 k1 g2 k2 o co u.1 d u.2) H := hP
  have hD : va_D (fun q : Nat => s.heap.size ≤ q) (wZ g1 k1 g2 k2 o co u.1 d u.2) := hD
  refine lv_istore (lv' := [(5, .int r), (0, .ref b), (1, .ref (g1 6)), (2, .ref (g2 20)), (3, .ref o), (4, .int (nI i))]) hx hb d_law_199 hl (by decide) rfl (fun ls hl => ?_)
  refine lv_aload_n hx hb d_law_201 rfl (lv_at hl 3 rfl) ?_
  refine lv_aload_n hx hb d_law_202 rfl (lv_at hl 1 rfl) ?_
  refine lv_iload hx hb d_law_203 (lv_at hl 5 rfl) ?_
  refine lv_iconst (v := (1 : Int32)) hx hb d_law_205 (by decide) ?_
  refine lv_iadd hx hb d_law_206 ?_
  refine va_sld hx hb hX hbl hbA hS (ix_in (i := i) (k := 1) (L := L) (v := (1 : Int32)) (by decide) (by omega) hL) d_law_207 ?_
  refine zc_i (w2 := fun u9 => wZ g1 k1 g2 k2 o co u.1 u9 u.2) (va_runV (As := [.int (xs ((nI i) + (1 : Int32)).toNatClampNeg)]) (rest := []) ⟨hx, hb, hml, hown, ht⟩ (mt_D_assemble l D g2 k2 H.size d (xs ((nI i) + (1 : Int32)).toNatClampNeg) (rw_lenD hRW)) (cwV 1 ht (zgV zw_1104 zw_1105 zw_1106 zw_7 zw_1107) rfl rfl rfl kd_D_assemble ⟨Nat.le_of_ble_eq_true rfl, Nat.le_of_ble_eq_true rfl⟩) ⟨zw_blind zw_tt, va_recv (hK.sub (tys' := [(k2 21, .long), (k2 22, .int), (k2 23, .int), (k2 24, .int), (k2 25, .int), (k2 26, .int), (k2 27, .int), (k2 28, .int)]) [3, 4, 5, 6, 7, 8, 9, 10] rfl) (hP.sub (ws' := wD g2 k2 d) [9, 10, 11, 12, 13, 14, 15, 16, 17] rfl) (ci := 6) (q0 := 0) rfl rfl, zw_go (hP.sub (ws' := wD g2 k2 d) [9, 10, 11, 12, 13, 14, 15, 16, 17] rfl) (hD.sub (ws' := wD g2 k2 d) [9, 10, 11, 12, 13, 14, 15, 16, 17] (by decide) rfl) (hK.sub (tys' := [(k2 21, .long), (k2 22, .int), (k2 23, .int), (k2 24, .int), (k2 25, .int), (k2 26, .int), (k2 27, .int), (k2 28, .int)]) [3, 4, 5, 6, 7, 8, 9, 10] rfl) (fun _ _ _ => trivial)⟩ rfl rfl hl.1 rfl (lv_room (Nat.le_of_ble_eq_true rfl)) d_law_208 ⟨hc, hs⟩) hP hD hS hA [9, 10, 11, 12, 13, 14, 15, 16, 17] [0, 1, 2, 3, 4, 5, 6, 7, 8, 18] [0, 1, 2, 3, 4, 5, 6, 7, 8, 10, 11, 12, 13, 14, 15, 16, 17, 18, 9] rfl rfl (by decide) (by decide) (by decide) (fun _ => rfl) (fun r1 d2 H locs hw1 hP hD hS => ?_)
  have hP : va_P D vwCl (wZ g1 k1 g2 k2 o co u.1 d2 u.2) H := hP
  have hD : va_D (fun q : Nat => s.heap.size ≤ q) (wZ g1 k1 g2 k2 o co u.1 d2 u.2) := hD
  refine lv_istore (lv' := [(6, .int r1), (5, .int r), (0, .ref b), (1, .ref (g1 6)), (2, .ref (g2 20)), (3, .ref o), (4, .int (nI i))]) hx hb d_law_211 hl (by decide) rfl (fun ls hl => ?_)
  refine lv_aload_n hx hb d_law_213 rfl (lv_at hl 4 rfl) ?_
  refine zc_i (w2 := fun _ => wZ g1 k1 g2 k2 o co u.1 d2 u.2) (va_runV (As := []) (rest := []) ⟨hx, hb, hml, hown, ht⟩ (mt_D_thrown l D g2 k2 H.size d2) (cwV 0 ht (zgV zw_949 zw_950 zw_951 zw_7 zw_952) rfl rfl rfl kd_D_thrown ⟨Nat.le_of_ble_eq_true rfl, Nat.le_of_ble_eq_true rfl⟩) ⟨zw_blind zw_tt, va_recv (hK.sub (tys' := [(k2 21, .long), (k2 22, .int), (k2 23, .int), (k2 24, .int), (k2 25, .int), (k2 26, .int), (k2 27, .int), (k2 28, .int)]) [3, 4, 5, 6, 7, 8, 9, 10] rfl) (hP.sub (ws' := wD g2 k2 d2) [9, 10, 11, 12, 13, 14, 15, 16, 17] rfl) (ci := 6) (q0 := 0) rfl rfl, zw_go (hP.sub (ws' := wD g2 k2 d2) [9, 10, 11, 12, 13, 14, 15, 16, 17] rfl) (hD.sub (ws' := wD g2 k2 d2) [9, 10, 11, 12, 13, 14, 15, 16, 17] (by decide) rfl) (hK.sub (tys' := [(k2 21, .long), (k2 22, .int), (k2 23, .int), (k2 24, .int), (k2 25, .int), (k2 26, .int), (k2 27, .int), (k2 28, .int)]) [3, 4, 5, 6, 7, 8, 9, 10] rfl) (fun _ _ _ => trivial)⟩ rfl rfl hl.1 rfl (lv_room (Nat.le_of_ble_eq_true rfl)) d_law_214 ⟨hc, hs⟩) hP hD hS hA [9, 10, 11, 12, 13, 14, 15, 16, 17] [0, 1, 2, 3, 4, 5, 6, 7, 8, 18] [0, 1, 2, 3, 4, 5, 6, 7, 8, 10, 11, 12, 13, 14, 15, 16, 17, 18, 9] rfl rfl (by decide) (by decide) (by decide) (fun _ => rfl) (fun r2 _ H locs hw2 hP hD hS => ?_)
  have hP : va_P D vwCl (wZ g1 k1 g2 k2 o co u.1 d2 u.2) H := hP
  have hD : va_D (fun q : Nat => s.heap.size ≤ q) (wZ g1 k1 g2 k2 o co u.1 d2 u.2) := hD
  refine lv_iload hx hb d_law_217 (lv_at hl 1 rfl) ?_
  obtain ⟨f1, f2, hF⟩ := fa_end (assemble_fa hRW (xs ((nI i) + (1 : Int32)).toNatClampNeg)) hw hw1 hw2
  refine lv_icmp_eq (tgt := 224) hx hb d_law_219 (by decide) (fun c9 => ?_) (fun c9 => absurd f1 c9)
  refine lv_iload hx hb d_law_224 (lv_at hl 1 rfl) ?_
  refine lv_if_ne (tgt := 241) hx hb d_law_226 (by decide) (fun _ => ?_) (fun c0 => ?_)
  · refine lv_goto (tgt := 801) hx hb d_law_241 (by decide) ?_
    exact kk _ _ _ _ _ _ hF hP hD hS (lv_sub hl [2, 3, 4, 5, 6] rfl)
  · refine lv_aload_n hx hb d_law_229 rfl (lv_at hl 5 rfl) ?_
    refine lv_iconst (v := (0 : Int32)) hx hb d_law_230 (by decide) ?_
    refine va_lald hx hb hK hP 18 11 rfl rfl (by unfold vp_in; decide) d_law_231 ?_
    refine lv_iload hx hb d_law_232 (lv_at hl 0 rfl) ?_
    refine lv_i2l (v := r1.toInt64) hx hb d_law_234 rfl ?_
    refine W.lcmp hx hb d_law_235 ?_
    refine lv_if_eq (tgt := 241) hx hb d_law_236 (by decide) (fun _ => ?_) (fun c9 => absurd (cmp_0 (f2 c0)) c9)
    refine lv_goto (tgt := 801) hx hb d_law_241 (by decide) ?_
    exact kk _ _ _ _ _ _ hF hP hD hS (lv_sub hl [2, 3, 4, 5, 6] rfl)
set_option maxHeartbeats 4000000 in
set_option maxRecDepth 100000 in
theorem ar_word {p : Program} {l : Launch} {e : Env} {s : State} {m : MethodId} {below : List Frame} {meth : Method} {c : Code} {D : va_G} {b L : Nat} {xs : Nat → Int32} {za zk zv : Nat → Nat} {g1 g2 : Nat → Nat} {k1 k2 : Nat → ClassId} {o : Nat} {co : ClassId} (hlt : l.stackTraces = false) (hx : p.tables.exec = Jvm.exec) (hb : c.code = code) (hml : c.maxLocals = 7) (hown : s.vm.findClass "WindowMachineLaw" = some m.cls) (ht : ∀ w9 ∈ zT, w9.before #[Value.ref b] s = true) (hX : va_X b L xs s s.heap) (hbl : b < s.heap.size) (hL : L ≤ 3072) (hZ : zh za zk zv (fun q : Nat => s.heap.size ≤ q) s) (hK : va_K D vwCl (tyZ k1 k2 co) s) {i cells slots : Nat} {st : SX} {d : SD} {ov : Nat → Int64} {H : Heap} {locs : List Loc} {ls : Array Slot} {Q : State → Prop} (hi : i + 6 ≤ L) (hc : cells + 1 ≤ 1053) (hs : slots + 6 ≤ 10093) (hRW : RW st d) (hP : va_P D vwCl (wZ g1 k1 g2 k2 o co st d ov) H) (hD : va_D (fun q : Nat => s.heap.size ≤ q) (wZ g1 k1 g2 k2 o co st d ov)) (hS : va_S (fun q : Nat => s.heap.size ≤ q) s.heap H locs) (hl : lv_has ls 7 [(0, .ref b), (1, .ref (g1 6)), (2, .ref (g2 20)), (3, .ref o), (4, .int (nI i))])
    (kk : ∀ (st : SX) (d : SD) (ov : Nat → Int64) (H : Heap) (locs : List Loc) (ls : Array Slot), RW st d → va_P D vwCl (wZ g1 k1 g2 k2 o co st d ov) H → va_D (fun q : Nat => s.heap.size ≤ q) (wZ g1 k1 g2 k2 o co st d ov) → va_S (fun q : Nat => s.heap.size ≤ q) s.heap H locs → lv_has ls 7 [(0, .ref b), (1, .ref (g1 6)), (2, .ref (g2 20)), (3, .ref o), (4, .int (nI i))] → W p l e room_1 s m #[Value.ref b] below meth c H locs (cells + 1) (slots + 6) Q (F0 m 801 ls [])) : W p l e room_1 s m #[Value.ref b] below meth c H locs cells slots Q (F0 m 325 ls []) := by
  have hA : ∀ q : Nat, s.heap.size ≤ q → (fun q : Nat => s.heap.size ≤ q) q := fun _ h => h
  have hbA : ¬ (fun q : Nat => s.heap.size ≤ q) b := Nat.not_le.mpr hbl
  refine lv_aload_n hx hb d_law_325 rfl (lv_at hl 1 rfl) ?_
  refine lv_aload_n hx hb d_law_326 rfl (lv_at hl 0 rfl) ?_
  refine lv_iload hx hb d_law_327 (lv_at hl 4 rfl) ?_
  refine lv_iconst (v := (1 : Int32)) hx hb d_law_329 (by decide) ?_
  refine lv_iadd hx hb d_law_330 ?_
  refine va_sld hx hb hX hbl hbA hS (ix_in (i := i) (k := 1) (L := L) (v := (1 : Int32)) (by decide) (by omega) hL) d_law_331 ?_
  refine lv_aload_n hx hb d_law_332 rfl (lv_at hl 3 rfl) ?_
  refine zc_iM (w2 := fun u9 => wZ g1 k1 g2 k2 o co u9.1 d u9.2) (vx_runSW (As := [.ref (g1 6), .int (xs ((nI i) + (1 : Int32)).toNatClampNeg), .ref o]) (rest := []) ⟨hx, hb, hml, hown, ht⟩ (mt_L_word l hlt D za zk zv g1 k1 o co H.size st ov (xs ((nI i) + (1 : Int32)).toNatClampNeg)) (vx_cwSW 3 ht (zgOW zw_485 zw_486 zw_0 zw_487) rfl rfl rfl kd_L_word.2 ⟨Nat.le_of_ble_eq_true rfl, Nat.le_of_ble_eq_true rfl⟩) ⟨zw_blind zh_bl, zw_go (hP.sub (ws' := wL g1 k1 o co st ov) [0, 1, 2, 3, 4, 5, 6, 7, 8, 18] rfl) (hD.sub (ws' := wL g1 k1 o co st ov) [0, 1, 2, 3, 4, 5, 6, 7, 8, 18] (by decide) rfl) (hK.sub (tys' := [(k1 0, .int), (k1 1, .int), (k1 2, .char), (co, .long)]) [0, 1, 2, 11] rfl) (fun U hU hW9 => zh_go hZ hS (va_free (wc := wL g1 k1 o co st ov) hD hS hA [0, 1, 2, 3, 4, 5, 6, 7, 8, 18] rfl) hU hW9)⟩ rfl rfl hl.1 rfl (lv_room (Nat.le_of_ble_eq_true rfl)) d_law_333 ⟨hc, hs⟩) hP hD hS hA [0, 1, 2, 3, 4, 5, 6, 7, 8, 18] [9, 10, 11, 12, 13, 14, 15, 16, 17] [9, 10, 11, 12, 13, 14, 15, 16, 17, 0, 1, 2, 3, 4, 5, 6, 7, 8, 18] rfl rfl (by decide) (by decide) (by decide) (fun _ => rfl) (fun r u H locs hw hP hD hS => ?_)
  have hP : va_P D vwCl (wZ g1 k1 g2 k2 o co u.1 d u.2) H := hP
  have hD : va_D (fun q : Nat => s.heap.size ≤ q) (wZ g1 k1 g2 k2 o co u.1 d u.2) := hD
  refine lv_istore (lv' := [(5, .int r), (0, .ref b), (1, .ref (g1 6)), (2, .ref (g2 20)), (3, .ref o), (4, .int (nI i))]) hx hb d_law_336 hl (by decide) rfl (fun ls hl => ?_)
  refine lv_aload_n hx hb d_law_338 rfl (lv_at hl 3 rfl) ?_
  refine lv_aload_n hx hb d_law_339 rfl (lv_at hl 1 rfl) ?_
  refine lv_iload hx hb d_law_340 (lv_at hl 5 rfl) ?_
  refine lv_iconst (v := (1 : Int32)) hx hb d_law_342 (by decide) ?_
  refine lv_iadd hx hb d_law_343 ?_
  refine va_sld hx hb hX hbl hbA hS (ix_in (i := i) (k := 1) (L := L) (v := (1 : Int32)) (by decide) (by omega) hL) d_law_344 ?_
  refine zc_i (w2 := fun u9 => wZ g1 k1 g2 k2 o co u.1 u9 u.2) (va_runV (As := [.int (xs ((nI i) + (1 : Int32)).toNatClampNeg)]) (rest := []) ⟨hx, hb, hml, hown, ht⟩ (mt_D_word l D g2 k2 H.size d (xs ((nI i) + (1 : Int32)).toNatClampNeg)) (cwV 1 ht (zgV zw_976 zw_977 zw_978 zw_7 zw_979) rfl rfl rfl kd_D_word ⟨Nat.le_of_ble_eq_true rfl, Nat.le_of_ble_eq_true rfl⟩) ⟨zw_blind zw_tt, va_recv (hK.sub (tys' := [(k2 21, .long), (k2 22, .int), (k2 23, .int), (k2 24, .int), (k2 25, .int), (k2 26, .int), (k2 27, .int), (k2 28, .int)]) [3, 4, 5, 6, 7, 8, 9, 10] rfl) (hP.sub (ws' := wD g2 k2 d) [9, 10, 11, 12, 13, 14, 15, 16, 17] rfl) (ci := 6) (q0 := 0) rfl rfl, zw_go (hP.sub (ws' := wD g2 k2 d) [9, 10, 11, 12, 13, 14, 15, 16, 17] rfl) (hD.sub (ws' := wD g2 k2 d) [9, 10, 11, 12, 13, 14, 15, 16, 17] (by decide) rfl) (hK.sub (tys' := [(k2 21, .long), (k2 22, .int), (k2 23, .int), (k2 24, .int), (k2 25, .int), (k2 26, .int), (k2 27, .int), (k2 28, .int)]) [3, 4, 5, 6, 7, 8, 9, 10] rfl) (fun _ _ _ => trivial)⟩ rfl rfl hl.1 rfl (lv_room (Nat.le_of_ble_eq_true rfl)) d_law_345 ⟨hc, hs⟩) hP hD hS hA [9, 10, 11, 12, 13, 14, 15, 16, 17] [0, 1, 2, 3, 4, 5, 6, 7, 8, 18] [0, 1, 2, 3, 4, 5, 6, 7, 8, 10, 11, 12, 13, 14, 15, 16, 17, 18, 9] rfl rfl (by decide) (by decide) (by decide) (fun _ => rfl) (fun r1 d2 H locs hw1 hP hD hS => ?_)
  have hP : va_P D vwCl (wZ g1 k1 g2 k2 o co u.1 d2 u.2) H := hP
  have hD : va_D (fun q : Nat => s.heap.size ≤ q) (wZ g1 k1 g2 k2 o co u.1 d2 u.2) := hD
  refine lv_istore (lv' := [(6, .int r1), (5, .int r), (0, .ref b), (1, .ref (g1 6)), (2, .ref (g2 20)), (3, .ref o), (4, .int (nI i))]) hx hb d_law_348 hl (by decide) rfl (fun ls hl => ?_)
  refine lv_aload_n hx hb d_law_350 rfl (lv_at hl 4 rfl) ?_
  refine zc_i (w2 := fun _ => wZ g1 k1 g2 k2 o co u.1 d2 u.2) (va_runV (As := []) (rest := []) ⟨hx, hb, hml, hown, ht⟩ (mt_D_thrown l D g2 k2 H.size d2) (cwV 0 ht (zgV zw_949 zw_950 zw_951 zw_7 zw_952) rfl rfl rfl kd_D_thrown ⟨Nat.le_of_ble_eq_true rfl, Nat.le_of_ble_eq_true rfl⟩) ⟨zw_blind zw_tt, va_recv (hK.sub (tys' := [(k2 21, .long), (k2 22, .int), (k2 23, .int), (k2 24, .int), (k2 25, .int), (k2 26, .int), (k2 27, .int), (k2 28, .int)]) [3, 4, 5, 6, 7, 8, 9, 10] rfl) (hP.sub (ws' := wD g2 k2 d2) [9, 10, 11, 12, 13, 14, 15, 16, 17] rfl) (ci := 6) (q0 := 0) rfl rfl, zw_go (hP.sub (ws' := wD g2 k2 d2) [9, 10, 11, 12, 13, 14, 15, 16, 17] rfl) (hD.sub (ws' := wD g2 k2 d2) [9, 10, 11, 12, 13, 14, 15, 16, 17] (by decide) rfl) (hK.sub (tys' := [(k2 21, .long), (k2 22, .int), (k2 23, .int), (k2 24, .int), (k2 25, .int), (k2 26, .int), (k2 27, .int), (k2 28, .int)]) [3, 4, 5, 6, 7, 8, 9, 10] rfl) (fun _ _ _ => trivial)⟩ rfl rfl hl.1 rfl (lv_room (Nat.le_of_ble_eq_true rfl)) d_law_351 ⟨hc, hs⟩) hP hD hS hA [9, 10, 11, 12, 13, 14, 15, 16, 17] [0, 1, 2, 3, 4, 5, 6, 7, 8, 18] [0, 1, 2, 3, 4, 5, 6, 7, 8, 10, 11, 12, 13, 14, 15, 16, 17, 18, 9] rfl rfl (by decide) (by decide) (by decide) (fun _ => rfl) (fun r2 _ H locs hw2 hP hD hS => ?_)
  have hP : va_P D vwCl (wZ g1 k1 g2 k2 o co u.1 d2 u.2) H := hP
  have hD : va_D (fun q : Nat => s.heap.size ≤ q) (wZ g1 k1 g2 k2 o co u.1 d2 u.2) := hD
  refine lv_iload hx hb d_law_354 (lv_at hl 1 rfl) ?_
  obtain ⟨f1, f2, hF⟩ := fa_end (word_fa hRW (xs ((nI i) + (1 : Int32)).toNatClampNeg)) hw hw1 hw2
  refine lv_icmp_eq (tgt := 361) hx hb d_law_356 (by decide) (fun c9 => ?_) (fun c9 => absurd f1 c9)
  refine lv_iload hx hb d_law_361 (lv_at hl 1 rfl) ?_
  refine lv_if_ne (tgt := 378) hx hb d_law_363 (by decide) (fun _ => ?_) (fun c0 => ?_)
  · refine lv_goto (tgt := 801) hx hb d_law_378 (by decide) ?_
    exact kk _ _ _ _ _ _ hF hP hD hS (lv_sub hl [2, 3, 4, 5, 6] rfl)
  · refine lv_aload_n hx hb d_law_366 rfl (lv_at hl 5 rfl) ?_
    refine lv_iconst (v := (0 : Int32)) hx hb d_law_367 (by decide) ?_
    refine va_lald hx hb hK hP 18 11 rfl rfl (by unfold vp_in; decide) d_law_368 ?_
    refine lv_iload hx hb d_law_369 (lv_at hl 0 rfl) ?_
    refine lv_i2l (v := r1.toInt64) hx hb d_law_371 rfl ?_
    refine W.lcmp hx hb d_law_372 ?_
    refine lv_if_eq (tgt := 378) hx hb d_law_373 (by decide) (fun _ => ?_) (fun c9 => absurd (cmp_0 (f2 c0)) c9)
    refine lv_goto (tgt := 801) hx hb d_law_378 (by decide) ?_
    exact kk _ _ _ _ _ _ hF hP hD hS (lv_sub hl [2, 3, 4, 5, 6] rfl)
set_option maxHeartbeats 4000000 in
set_option maxRecDepth 100000 in
theorem ar_run {p : Program} {l : Launch} {e : Env} {s : State} {m : MethodId} {below : List Frame} {meth : Method} {c : Code} {D : va_G} {b L : Nat} {xs : Nat → Int32} {za zk zv : Nat → Nat} {g1 g2 : Nat → Nat} {k1 k2 : Nat → ClassId} {o : Nat} {co : ClassId} (hlt : l.stackTraces = false) (hx : p.tables.exec = Jvm.exec) (hb : c.code = code) (hml : c.maxLocals = 7) (hown : s.vm.findClass "WindowMachineLaw" = some m.cls) (ht : ∀ w9 ∈ zT, w9.before #[Value.ref b] s = true) (hX : va_X b L xs s s.heap) (hbl : b < s.heap.size) (hL : L ≤ 3072) (hZ : zh za zk zv (fun q : Nat => s.heap.size ≤ q) s) (hK : va_K D vwCl (tyZ k1 k2 co) s) {i cells slots : Nat} {st : SX} {d : SD} {ov : Nat → Int64} {H : Heap} {locs : List Loc} {ls : Array Slot} {Q : State → Prop} (hi : i + 6 ≤ L) (hc : cells + 1 ≤ 1053) (hs : slots + 6 ≤ 10093) (hRW : RW st d) (hP : va_P D vwCl (wZ g1 k1 g2 k2 o co st d ov) H) (hD : va_D (fun q : Nat => s.heap.size ≤ q) (wZ g1 k1 g2 k2 o co st d ov)) (hS : va_S (fun q : Nat => s.heap.size ≤ q) s.heap H locs) (hl : lv_has ls 7 [(0, .ref b), (1, .ref (g1 6)), (2, .ref (g2 20)), (3, .ref o), (4, .int (nI i))])
    (kk : ∀ (st : SX) (d : SD) (ov : Nat → Int64) (H : Heap) (locs : List Loc) (ls : Array Slot), RW st d → va_P D vwCl (wZ g1 k1 g2 k2 o co st d ov) H → va_D (fun q : Nat => s.heap.size ≤ q) (wZ g1 k1 g2 k2 o co st d ov) → va_S (fun q : Nat => s.heap.size ≤ q) s.heap H locs → lv_has ls 7 [(0, .ref b), (1, .ref (g1 6)), (2, .ref (g2 20)), (3, .ref o), (4, .int (nI i))] → W p l e room_1 s m #[Value.ref b] below meth c H locs (cells + 1) (slots + 6) Q (F0 m 801 ls [])) : W p l e room_1 s m #[Value.ref b] below meth c H locs cells slots Q (F0 m 381 ls []) := by
  have hA : ∀ q : Nat, s.heap.size ≤ q → (fun q : Nat => s.heap.size ≤ q) q := fun _ h => h
  have hbA : ¬ (fun q : Nat => s.heap.size ≤ q) b := Nat.not_le.mpr hbl
  refine lv_aload_n hx hb d_law_381 rfl (lv_at hl 1 rfl) ?_
  refine lv_aload_n hx hb d_law_382 rfl (lv_at hl 0 rfl) ?_
  refine lv_iload hx hb d_law_383 (lv_at hl 4 rfl) ?_
  refine lv_iconst (v := (1 : Int32)) hx hb d_law_385 (by decide) ?_
  refine lv_iadd hx hb d_law_386 ?_
  refine va_sld hx hb hX hbl hbA hS (ix_in (i := i) (k := 1) (L := L) (v := (1 : Int32)) (by decide) (by omega) hL) d_law_387 ?_
  refine lv_aload_n hx hb d_law_388 rfl (lv_at hl 3 rfl) ?_
  refine zc_iM (w2 := fun u9 => wZ g1 k1 g2 k2 o co u9.1 d u9.2) (vx_runSW (As := [.ref (g1 6), .int (xs ((nI i) + (1 : Int32)).toNatClampNeg), .ref o]) (rest := []) ⟨hx, hb, hml, hown, ht⟩ (mt_L_run l hlt D za zk zv g1 k1 o co H.size st ov (xs ((nI i) + (1 : Int32)).toNatClampNeg) (rw_okW hRW)) (vx_cwSW 3 ht (zgOW zw_492 zw_493 zw_0 zw_494) rfl rfl rfl kd_L_run.2 ⟨Nat.le_of_ble_eq_true rfl, Nat.le_of_ble_eq_true rfl⟩) ⟨zw_blind zh_bl, zw_go (hP.sub (ws' := wL g1 k1 o co st ov) [0, 1, 2, 3, 4, 5, 6, 7, 8, 18] rfl) (hD.sub (ws' := wL g1 k1 o co st ov) [0, 1, 2, 3, 4, 5, 6, 7, 8, 18] (by decide) rfl) (hK.sub (tys' := [(k1 0, .int), (k1 1, .int), (k1 2, .char), (co, .long)]) [0, 1, 2, 11] rfl) (fun U hU hW9 => zh_go hZ hS (va_free (wc := wL g1 k1 o co st ov) hD hS hA [0, 1, 2, 3, 4, 5, 6, 7, 8, 18] rfl) hU hW9)⟩ rfl rfl hl.1 rfl (lv_room (Nat.le_of_ble_eq_true rfl)) d_law_389 ⟨hc, hs⟩) hP hD hS hA [0, 1, 2, 3, 4, 5, 6, 7, 8, 18] [9, 10, 11, 12, 13, 14, 15, 16, 17] [9, 10, 11, 12, 13, 14, 15, 16, 17, 0, 1, 2, 3, 4, 5, 6, 7, 8, 18] rfl rfl (by decide) (by decide) (by decide) (fun _ => rfl) (fun r u H locs hw hP hD hS => ?_)
  have hP : va_P D vwCl (wZ g1 k1 g2 k2 o co u.1 d u.2) H := hP
  have hD : va_D (fun q : Nat => s.heap.size ≤ q) (wZ g1 k1 g2 k2 o co u.1 d u.2) := hD
  refine lv_istore (lv' := [(5, .int r), (0, .ref b), (1, .ref (g1 6)), (2, .ref (g2 20)), (3, .ref o), (4, .int (nI i))]) hx hb d_law_392 hl (by decide) rfl (fun ls hl => ?_)
  refine lv_aload_n hx hb d_law_394 rfl (lv_at hl 3 rfl) ?_
  refine lv_aload_n hx hb d_law_395 rfl (lv_at hl 1 rfl) ?_
  refine lv_iload hx hb d_law_396 (lv_at hl 5 rfl) ?_
  refine lv_iconst (v := (1 : Int32)) hx hb d_law_398 (by decide) ?_
  refine lv_iadd hx hb d_law_399 ?_
  refine va_sld hx hb hX hbl hbA hS (ix_in (i := i) (k := 1) (L := L) (v := (1 : Int32)) (by decide) (by omega) hL) d_law_400 ?_
  refine zc_i (w2 := fun u9 => wZ g1 k1 g2 k2 o co u.1 u9 u.2) (va_runV (As := [.int (xs ((nI i) + (1 : Int32)).toNatClampNeg)]) (rest := []) ⟨hx, hb, hml, hown, ht⟩ (mt_D_run l D g2 k2 H.size d (xs ((nI i) + (1 : Int32)).toNatClampNeg) (rw_okV hRW)) (cwV 1 ht (zgV zw_998 zw_999 zw_1000 zw_7 zw_1001) rfl rfl rfl kd_D_run ⟨Nat.le_of_ble_eq_true rfl, Nat.le_of_ble_eq_true rfl⟩) ⟨zw_blind zw_tt, va_recv (hK.sub (tys' := [(k2 21, .long), (k2 22, .int), (k2 23, .int), (k2 24, .int), (k2 25, .int), (k2 26, .int), (k2 27, .int), (k2 28, .int)]) [3, 4, 5, 6, 7, 8, 9, 10] rfl) (hP.sub (ws' := wD g2 k2 d) [9, 10, 11, 12, 13, 14, 15, 16, 17] rfl) (ci := 6) (q0 := 0) rfl rfl, zw_go (hP.sub (ws' := wD g2 k2 d) [9, 10, 11, 12, 13, 14, 15, 16, 17] rfl) (hD.sub (ws' := wD g2 k2 d) [9, 10, 11, 12, 13, 14, 15, 16, 17] (by decide) rfl) (hK.sub (tys' := [(k2 21, .long), (k2 22, .int), (k2 23, .int), (k2 24, .int), (k2 25, .int), (k2 26, .int), (k2 27, .int), (k2 28, .int)]) [3, 4, 5, 6, 7, 8, 9, 10] rfl) (fun _ _ _ => trivial)⟩ rfl rfl hl.1 rfl (lv_room (Nat.le_of_ble_eq_true rfl)) d_law_401 ⟨hc, hs⟩) hP hD hS hA [9, 10, 11, 12, 13, 14, 15, 16, 17] [0, 1, 2, 3, 4, 5, 6, 7, 8, 18] [0, 1, 2, 3, 4, 5, 6, 7, 8, 10, 11, 12, 13, 14, 15, 16, 17, 18, 9] rfl rfl (by decide) (by decide) (by decide) (fun _ => rfl) (fun r1 d2 H locs hw1 hP hD hS => ?_)
  have hP : va_P D vwCl (wZ g1 k1 g2 k2 o co u.1 d2 u.2) H := hP
  have hD : va_D (fun q : Nat => s.heap.size ≤ q) (wZ g1 k1 g2 k2 o co u.1 d2 u.2) := hD
  refine lv_istore (lv' := [(6, .int r1), (5, .int r), (0, .ref b), (1, .ref (g1 6)), (2, .ref (g2 20)), (3, .ref o), (4, .int (nI i))]) hx hb d_law_404 hl (by decide) rfl (fun ls hl => ?_)
  refine lv_aload_n hx hb d_law_406 rfl (lv_at hl 4 rfl) ?_
  refine zc_i (w2 := fun _ => wZ g1 k1 g2 k2 o co u.1 d2 u.2) (va_runV (As := []) (rest := []) ⟨hx, hb, hml, hown, ht⟩ (mt_D_thrown l D g2 k2 H.size d2) (cwV 0 ht (zgV zw_949 zw_950 zw_951 zw_7 zw_952) rfl rfl rfl kd_D_thrown ⟨Nat.le_of_ble_eq_true rfl, Nat.le_of_ble_eq_true rfl⟩) ⟨zw_blind zw_tt, va_recv (hK.sub (tys' := [(k2 21, .long), (k2 22, .int), (k2 23, .int), (k2 24, .int), (k2 25, .int), (k2 26, .int), (k2 27, .int), (k2 28, .int)]) [3, 4, 5, 6, 7, 8, 9, 10] rfl) (hP.sub (ws' := wD g2 k2 d2) [9, 10, 11, 12, 13, 14, 15, 16, 17] rfl) (ci := 6) (q0 := 0) rfl rfl, zw_go (hP.sub (ws' := wD g2 k2 d2) [9, 10, 11, 12, 13, 14, 15, 16, 17] rfl) (hD.sub (ws' := wD g2 k2 d2) [9, 10, 11, 12, 13, 14, 15, 16, 17] (by decide) rfl) (hK.sub (tys' := [(k2 21, .long), (k2 22, .int), (k2 23, .int), (k2 24, .int), (k2 25, .int), (k2 26, .int), (k2 27, .int), (k2 28, .int)]) [3, 4, 5, 6, 7, 8, 9, 10] rfl) (fun _ _ _ => trivial)⟩ rfl rfl hl.1 rfl (lv_room (Nat.le_of_ble_eq_true rfl)) d_law_407 ⟨hc, hs⟩) hP hD hS hA [9, 10, 11, 12, 13, 14, 15, 16, 17] [0, 1, 2, 3, 4, 5, 6, 7, 8, 18] [0, 1, 2, 3, 4, 5, 6, 7, 8, 10, 11, 12, 13, 14, 15, 16, 17, 18, 9] rfl rfl (by decide) (by decide) (by decide) (fun _ => rfl) (fun r2 _ H locs hw2 hP hD hS => ?_)
  have hP : va_P D vwCl (wZ g1 k1 g2 k2 o co u.1 d2 u.2) H := hP
  have hD : va_D (fun q : Nat => s.heap.size ≤ q) (wZ g1 k1 g2 k2 o co u.1 d2 u.2) := hD
  refine lv_iload hx hb d_law_410 (lv_at hl 1 rfl) ?_
  obtain ⟨f1, f2, hF⟩ := fa_end (run_fa hRW (xs ((nI i) + (1 : Int32)).toNatClampNeg)) hw hw1 hw2
  refine lv_icmp_eq (tgt := 417) hx hb d_law_412 (by decide) (fun c9 => ?_) (fun c9 => absurd f1 c9)
  refine lv_iload hx hb d_law_417 (lv_at hl 1 rfl) ?_
  refine lv_if_ne (tgt := 434) hx hb d_law_419 (by decide) (fun _ => ?_) (fun c0 => ?_)
  · refine lv_goto (tgt := 801) hx hb d_law_434 (by decide) ?_
    exact kk _ _ _ _ _ _ hF hP hD hS (lv_sub hl [2, 3, 4, 5, 6] rfl)
  · refine lv_aload_n hx hb d_law_422 rfl (lv_at hl 5 rfl) ?_
    refine lv_iconst (v := (0 : Int32)) hx hb d_law_423 (by decide) ?_
    refine va_lald hx hb hK hP 18 11 rfl rfl (by unfold vp_in; decide) d_law_424 ?_
    refine lv_iload hx hb d_law_425 (lv_at hl 0 rfl) ?_
    refine lv_i2l (v := r1.toInt64) hx hb d_law_427 rfl ?_
    refine W.lcmp hx hb d_law_428 ?_
    refine lv_if_eq (tgt := 434) hx hb d_law_429 (by decide) (fun _ => ?_) (fun c9 => absurd (cmp_0 (f2 c0)) c9)
    refine lv_goto (tgt := 801) hx hb d_law_434 (by decide) ?_
    exact kk _ _ _ _ _ _ hF hP hD hS (lv_sub hl [2, 3, 4, 5, 6] rfl)
set_option maxHeartbeats 4000000 in
set_option maxRecDepth 100000 in
theorem ar_start {p : Program} {l : Launch} {e : Env} {s : State} {m : MethodId} {below : List Frame} {meth : Method} {c : Code} {D : va_G} {b L : Nat} {xs : Nat → Int32} {za zk zv : Nat → Nat} {g1 g2 : Nat → Nat} {k1 k2 : Nat → ClassId} {o : Nat} {co : ClassId} (hlt : l.stackTraces = false) (hx : p.tables.exec = Jvm.exec) (hb : c.code = code) (hml : c.maxLocals = 7) (hown : s.vm.findClass "WindowMachineLaw" = some m.cls) (ht : ∀ w9 ∈ zT, w9.before #[Value.ref b] s = true) (hX : va_X b L xs s s.heap) (hbl : b < s.heap.size) (hL : L ≤ 3072) (hZ : zh za zk zv (fun q : Nat => s.heap.size ≤ q) s) (hK : va_K D vwCl (tyZ k1 k2 co) s) {i cells slots : Nat} {st : SX} {d : SD} {ov : Nat → Int64} {H : Heap} {locs : List Loc} {ls : Array Slot} {Q : State → Prop} (hi : i + 6 ≤ L) (hc : cells + 1 ≤ 1053) (hs : slots + 6 ≤ 10093) (hRW : RW st d) (hP : va_P D vwCl (wZ g1 k1 g2 k2 o co st d ov) H) (hD : va_D (fun q : Nat => s.heap.size ≤ q) (wZ g1 k1 g2 k2 o co st d ov)) (hS : va_S (fun q : Nat => s.heap.size ≤ q) s.heap H locs) (hl : lv_has ls 7 [(0, .ref b), (1, .ref (g1 6)), (2, .ref (g2 20)), (3, .ref o), (4, .int (nI i))])
    (kk : ∀ (st : SX) (d : SD) (ov : Nat → Int64) (H : Heap) (locs : List Loc) (ls : Array Slot), RW st d → va_P D vwCl (wZ g1 k1 g2 k2 o co st d ov) H → va_D (fun q : Nat => s.heap.size ≤ q) (wZ g1 k1 g2 k2 o co st d ov) → va_S (fun q : Nat => s.heap.size ≤ q) s.heap H locs → lv_has ls 7 [(0, .ref b), (1, .ref (g1 6)), (2, .ref (g2 20)), (3, .ref o), (4, .int (nI i))] → W p l e room_1 s m #[Value.ref b] below meth c H locs (cells + 1) (slots + 6) Q (F0 m 801 ls [])) : W p l e room_1 s m #[Value.ref b] below meth c H locs cells slots Q (F0 m 437 ls []) := by
  have hA : ∀ q : Nat, s.heap.size ≤ q → (fun q : Nat => s.heap.size ≤ q) q := fun _ h => h
  have hbA : ¬ (fun q : Nat => s.heap.size ≤ q) b := Nat.not_le.mpr hbl
  refine lv_aload_n hx hb d_law_437 rfl (lv_at hl 1 rfl) ?_
  refine lv_aload_n hx hb d_law_438 rfl (lv_at hl 0 rfl) ?_
  refine lv_iload hx hb d_law_439 (lv_at hl 4 rfl) ?_
  refine lv_iconst (v := (1 : Int32)) hx hb d_law_441 (by decide) ?_
  refine lv_iadd hx hb d_law_442 ?_
  refine va_sld hx hb hX hbl hbA hS (ix_in (i := i) (k := 1) (L := L) (v := (1 : Int32)) (by decide) (by omega) hL) d_law_443 ?_
  refine lv_aload_n hx hb d_law_444 rfl (lv_at hl 3 rfl) ?_
  refine zc_iM (w2 := fun u9 => wZ g1 k1 g2 k2 o co u9.1 d u9.2) (vx_runSW (As := [.ref (g1 6), .int (xs ((nI i) + (1 : Int32)).toNatClampNeg), .ref o]) (rest := []) ⟨hx, hb, hml, hown, ht⟩ (mt_L_start l hlt D za zk zv g1 k1 o co H.size st ov (xs ((nI i) + (1 : Int32)).toNatClampNeg)) (vx_cwSW 3 ht (zgOW zw_704 zw_705 zw_0 zw_706) rfl rfl rfl kd_L_start.2 ⟨Nat.le_of_ble_eq_true rfl, Nat.le_of_ble_eq_true rfl⟩) ⟨zw_blind zh_bl, zw_go (hP.sub (ws' := wL g1 k1 o co st ov) [0, 1, 2, 3, 4, 5, 6, 7, 8, 18] rfl) (hD.sub (ws' := wL g1 k1 o co st ov) [0, 1, 2, 3, 4, 5, 6, 7, 8, 18] (by decide) rfl) (hK.sub (tys' := [(k1 0, .int), (k1 1, .int), (k1 2, .char), (co, .long)]) [0, 1, 2, 11] rfl) (fun U hU hW9 => zh_go hZ hS (va_free (wc := wL g1 k1 o co st ov) hD hS hA [0, 1, 2, 3, 4, 5, 6, 7, 8, 18] rfl) hU hW9)⟩ rfl rfl hl.1 rfl (lv_room (Nat.le_of_ble_eq_true rfl)) d_law_445 ⟨hc, hs⟩) hP hD hS hA [0, 1, 2, 3, 4, 5, 6, 7, 8, 18] [9, 10, 11, 12, 13, 14, 15, 16, 17] [9, 10, 11, 12, 13, 14, 15, 16, 17, 0, 1, 2, 3, 4, 5, 6, 7, 8, 18] rfl rfl (by decide) (by decide) (by decide) (fun _ => rfl) (fun r u H locs hw hP hD hS => ?_)
  have hP : va_P D vwCl (wZ g1 k1 g2 k2 o co u.1 d u.2) H := hP
  have hD : va_D (fun q : Nat => s.heap.size ≤ q) (wZ g1 k1 g2 k2 o co u.1 d u.2) := hD
  refine lv_istore (lv' := [(5, .int r), (0, .ref b), (1, .ref (g1 6)), (2, .ref (g2 20)), (3, .ref o), (4, .int (nI i))]) hx hb d_law_448 hl (by decide) rfl (fun ls hl => ?_)
  refine lv_aload_n hx hb d_law_450 rfl (lv_at hl 3 rfl) ?_
  refine lv_aload_n hx hb d_law_451 rfl (lv_at hl 1 rfl) ?_
  refine lv_iload hx hb d_law_452 (lv_at hl 5 rfl) ?_
  refine lv_iconst (v := (1 : Int32)) hx hb d_law_454 (by decide) ?_
  refine lv_iadd hx hb d_law_455 ?_
  refine va_sld hx hb hX hbl hbA hS (ix_in (i := i) (k := 1) (L := L) (v := (1 : Int32)) (by decide) (by omega) hL) d_law_456 ?_
  refine zc_i (w2 := fun u9 => wZ g1 k1 g2 k2 o co u.1 u9 u.2) (va_runV (As := [.int (xs ((nI i) + (1 : Int32)).toNatClampNeg)]) (rest := []) ⟨hx, hb, hml, hown, ht⟩ (mt_D_start l D g2 k2 H.size d (xs ((nI i) + (1 : Int32)).toNatClampNeg)) (cwV 1 ht (zgV zw_1082 zw_1083 zw_1084 zw_7 zw_1085) rfl rfl rfl kd_D_start ⟨Nat.le_of_ble_eq_true rfl, Nat.le_of_ble_eq_true rfl⟩) ⟨zw_blind zw_tt, va_recv (hK.sub (tys' := [(k2 21, .long), (k2 22, .int), (k2 23, .int), (k2 24, .int), (k2 25, .int), (k2 26, .int), (k2 27, .int), (k2 28, .int)]) [3, 4, 5, 6, 7, 8, 9, 10] rfl) (hP.sub (ws' := wD g2 k2 d) [9, 10, 11, 12, 13, 14, 15, 16, 17] rfl) (ci := 6) (q0 := 0) rfl rfl, zw_go (hP.sub (ws' := wD g2 k2 d) [9, 10, 11, 12, 13, 14, 15, 16, 17] rfl) (hD.sub (ws' := wD g2 k2 d) [9, 10, 11, 12, 13, 14, 15, 16, 17] (by decide) rfl) (hK.sub (tys' := [(k2 21, .long), (k2 22, .int), (k2 23, .int), (k2 24, .int), (k2 25, .int), (k2 26, .int), (k2 27, .int), (k2 28, .int)]) [3, 4, 5, 6, 7, 8, 9, 10] rfl) (fun _ _ _ => trivial)⟩ rfl rfl hl.1 rfl (lv_room (Nat.le_of_ble_eq_true rfl)) d_law_457 ⟨hc, hs⟩) hP hD hS hA [9, 10, 11, 12, 13, 14, 15, 16, 17] [0, 1, 2, 3, 4, 5, 6, 7, 8, 18] [0, 1, 2, 3, 4, 5, 6, 7, 8, 10, 11, 12, 13, 14, 15, 16, 17, 18, 9] rfl rfl (by decide) (by decide) (by decide) (fun _ => rfl) (fun r1 d2 H locs hw1 hP hD hS => ?_)
  have hP : va_P D vwCl (wZ g1 k1 g2 k2 o co u.1 d2 u.2) H := hP
  have hD : va_D (fun q : Nat => s.heap.size ≤ q) (wZ g1 k1 g2 k2 o co u.1 d2 u.2) := hD
  refine lv_istore (lv' := [(6, .int r1), (5, .int r), (0, .ref b), (1, .ref (g1 6)), (2, .ref (g2 20)), (3, .ref o), (4, .int (nI i))]) hx hb d_law_460 hl (by decide) rfl (fun ls hl => ?_)
  refine lv_aload_n hx hb d_law_462 rfl (lv_at hl 4 rfl) ?_
  refine zc_i (w2 := fun _ => wZ g1 k1 g2 k2 o co u.1 d2 u.2) (va_runV (As := []) (rest := []) ⟨hx, hb, hml, hown, ht⟩ (mt_D_thrown l D g2 k2 H.size d2) (cwV 0 ht (zgV zw_949 zw_950 zw_951 zw_7 zw_952) rfl rfl rfl kd_D_thrown ⟨Nat.le_of_ble_eq_true rfl, Nat.le_of_ble_eq_true rfl⟩) ⟨zw_blind zw_tt, va_recv (hK.sub (tys' := [(k2 21, .long), (k2 22, .int), (k2 23, .int), (k2 24, .int), (k2 25, .int), (k2 26, .int), (k2 27, .int), (k2 28, .int)]) [3, 4, 5, 6, 7, 8, 9, 10] rfl) (hP.sub (ws' := wD g2 k2 d2) [9, 10, 11, 12, 13, 14, 15, 16, 17] rfl) (ci := 6) (q0 := 0) rfl rfl, zw_go (hP.sub (ws' := wD g2 k2 d2) [9, 10, 11, 12, 13, 14, 15, 16, 17] rfl) (hD.sub (ws' := wD g2 k2 d2) [9, 10, 11, 12, 13, 14, 15, 16, 17] (by decide) rfl) (hK.sub (tys' := [(k2 21, .long), (k2 22, .int), (k2 23, .int), (k2 24, .int), (k2 25, .int), (k2 26, .int), (k2 27, .int), (k2 28, .int)]) [3, 4, 5, 6, 7, 8, 9, 10] rfl) (fun _ _ _ => trivial)⟩ rfl rfl hl.1 rfl (lv_room (Nat.le_of_ble_eq_true rfl)) d_law_463 ⟨hc, hs⟩) hP hD hS hA [9, 10, 11, 12, 13, 14, 15, 16, 17] [0, 1, 2, 3, 4, 5, 6, 7, 8, 18] [0, 1, 2, 3, 4, 5, 6, 7, 8, 10, 11, 12, 13, 14, 15, 16, 17, 18, 9] rfl rfl (by decide) (by decide) (by decide) (fun _ => rfl) (fun r2 _ H locs hw2 hP hD hS => ?_)
  have hP : va_P D vwCl (wZ g1 k1 g2 k2 o co u.1 d2 u.2) H := hP
  have hD : va_D (fun q : Nat => s.heap.size ≤ q) (wZ g1 k1 g2 k2 o co u.1 d2 u.2) := hD
  refine lv_iload hx hb d_law_466 (lv_at hl 1 rfl) ?_
  obtain ⟨f1, f2, hF⟩ := fa_end (start_fa hRW (xs ((nI i) + (1 : Int32)).toNatClampNeg)) hw hw1 hw2
  refine lv_icmp_eq (tgt := 473) hx hb d_law_468 (by decide) (fun c9 => ?_) (fun c9 => absurd f1 c9)
  refine lv_iload hx hb d_law_473 (lv_at hl 1 rfl) ?_
  refine lv_if_ne (tgt := 490) hx hb d_law_475 (by decide) (fun _ => ?_) (fun c0 => ?_)
  · refine lv_goto (tgt := 801) hx hb d_law_490 (by decide) ?_
    exact kk _ _ _ _ _ _ hF hP hD hS (lv_sub hl [2, 3, 4, 5, 6] rfl)
  · refine lv_aload_n hx hb d_law_478 rfl (lv_at hl 5 rfl) ?_
    refine lv_iconst (v := (0 : Int32)) hx hb d_law_479 (by decide) ?_
    refine va_lald hx hb hK hP 18 11 rfl rfl (by unfold vp_in; decide) d_law_480 ?_
    refine lv_iload hx hb d_law_481 (lv_at hl 0 rfl) ?_
    refine lv_i2l (v := r1.toInt64) hx hb d_law_483 rfl ?_
    refine W.lcmp hx hb d_law_484 ?_
    refine lv_if_eq (tgt := 490) hx hb d_law_485 (by decide) (fun _ => ?_) (fun c9 => absurd (cmp_0 (f2 c0)) c9)
    refine lv_goto (tgt := 801) hx hb d_law_490 (by decide) ?_
    exact kk _ _ _ _ _ _ hF hP hD hS (lv_sub hl [2, 3, 4, 5, 6] rfl)
