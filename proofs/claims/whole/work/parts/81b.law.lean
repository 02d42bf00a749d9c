set_option maxHeartbeats 4000000 in
set_option maxRecDepth 100000 in
theorem ar_place {p : Program} {l : Launch} {e : Env} {s : State} {m : MethodId} {below : List Frame} {meth : Method} {c : Code} {D : va_G} {b L : Nat} {xs : Nat → Int32} {za zk zv : Nat → Nat} {g1 g2 : Nat → Nat} {k1 k2 : Nat → ClassId} {o : Nat} {co : ClassId} (hlt : l.stackTraces = false) (hx : p.tables.exec = Jvm.exec) (hb : c.code = code) (hml : c.maxLocals = 7) (hown : s.vm.findClass "WindowMachineLaw" = some m.cls) (ht : ∀ w9 ∈ zT, w9.before #[Value.ref b] s = true) (hX : va_X b L xs s s.heap) (hbl : b < s.heap.size) (hL : L ≤ 3072) (hZ : zh za zk zv (fun q : Nat => s.heap.size ≤ q) s) (hK : va_K D vwCl (tyZ k1 k2 co) s) {i cells slots : Nat} {st : SX} {d : SD} {ov : Nat → Int64} {H : Heap} {locs : List Loc} {ls : Array Slot} {Q : State → Prop} (hi : i + 6 ≤ L) (hc : cells + 1 ≤ 1053) (hs : slots + 6 ≤ 10093) (hRW : RW st d) (hP : va_P D vwCl (wZ g1 k1 g2 k2 o co st d ov) H) (hD : va_D (fun q : Nat => s.heap.size ≤ q) (wZ g1 k1 g2 k2 o co st d ov)) (hS : va_S (fun q : Nat => s.heap.size ≤ q) s.heap H locs) (hl : lv_has ls 7 [(0, .ref b), (1, .ref (g1 6)), (2, .ref (g2 20)), (3, .ref o), (4, .int (nI i))])
    (kk : ∀ (st : SX) (d : SD) (ov : Nat → Int64) (H : Heap) (locs : List Loc) (ls : Array Slot), RW st d → va_P D vwCl (wZ g1 k1 g2 k2 o co st d ov) H → va_D (fun q : Nat => s.heap.size ≤ q) (wZ g1 k1 g2 k2 o co st d ov) → va_S (fun q : Nat => s.heap.size ≤ q) s.heap H locs → lv_has ls 7 [(0, .ref b), (1, .ref (g1 6)), (2, .ref (g2 20)), (3, .ref o), (4, .int (nI i))] → W p l e room_1 s m #[Value.ref b] below meth c H locs (cells + 1) (slots + 6) Q (F0 m 801 ls [])) : W p l e room_1 s m #[Value.ref b] below meth c H locs cells slots Q (F0 m 244 ls []) := by
  have hA : ∀ q : Nat, s.heap.size ≤ q → (fun q : Nat => s.heap.size ≤ q) q := fun _ h => h
  have hbA : ¬ (fun q : Nat => s.heap.size ≤ q) b := Nat.not_le.mpr hbl
  refine lv_aload_n hx hb d_law_244 rfl (lv_at hl 1 rfl) ?_
  refine zc_i (w2 := fun _ => wZ g1 k1 g2 k2 o co st d ov) (va_runV (As := []) (rest := []) ⟨hx, hb, hml, hown, ht⟩ (mt_X_place l D za zk zv g1 k1 H.size st) (cwV 0 ht (zgV zw_184 zw_185 zw_186 zw_1 zw_187) rfl rfl rfl kd_X_place ⟨Nat.le_of_ble_eq_true rfl, Nat.le_of_ble_eq_true rfl⟩) ⟨zw_blind zz_bl, va_recv (hK.sub (tys' := [(k1 0, .int), (k1 1, .int), (k1 2, .char)]) [0, 1, 2] rfl) (hP.sub (ws' := wX g1 k1 st) [0, 1, 2, 3, 4, 5, 6, 7, 8] rfl) (ci := 5) (q0 := 0) rfl rfl, zw_go (hP.sub (ws' := wX g1 k1 st) [0, 1, 2, 3, 4, 5, 6, 7, 8] rfl) (hD.sub (ws' := wX g1 k1 st) [0, 1, 2, 3, 4, 5, 6, 7, 8] (by decide) rfl) (hK.sub (tys' := [(k1 0, .int), (k1 1, .int), (k1 2, .char)]) [0, 1, 2] rfl) (fun U hU hW9 => zz_go hZ.1.1 hS (va_free (wc := wX g1 k1 st) hD hS hA [0, 1, 2, 3, 4, 5, 6, 7, 8] rfl) hU hW9)⟩ rfl rfl hl.1 rfl (lv_room (Nat.le_of_ble_eq_true rfl)) d_law_245 ⟨(Nat.le_of_succ_le hc), (Nat.le_trans (Nat.le_add_right _ 6) hs)⟩) hP hD hS hA [0, 1, 2, 3, 4, 5, 6, 7, 8] [9, 10, 11, 12, 13, 14, 15, 16, 17, 18] [10, 11, 12, 13, 14, 15, 16, 17, 18, 0, 1, 2, 3, 4, 5, 6, 7, 8, 9] rfl rfl (by decide) (by decide) (by decide) (fun _ => rfl) (fun r1 _ H locs hw1 hP hD hS => ?_)
  have hP : va_P D vwCl (wZ g1 k1 g2 k2 o co st d ov) H := hP
  have hD : va_D (fun q : Nat => s.heap.size ≤ q) (wZ g1 k1 g2 k2 o co st d ov) := hD
  refine lv_aload_n hx hb d_law_248 rfl (lv_at hl 2 rfl) ?_
  refine zc_i (w2 := fun u9 => wZ g1 k1 g2 k2 o co st u9 ov) (va_runV (As := []) (rest := [.int r1]) ⟨hx, hb, hml, hown, ht⟩ (mt_D_place l D g2 k2 H.size d) (cwV 0 ht (zgV zw_1177 zw_1178 zw_1179 zw_7 zw_1180) rfl rfl rfl kd_D_place ⟨Nat.le_of_ble_eq_true rfl, Nat.le_of_ble_eq_true rfl⟩) ⟨zw_blind zw_tt, va_recv (hK.sub (tys' := [(k2 21, .long), (k2 22, .int), (k2 23, .int), (k2 24, .int), (k2 25, .int), (k2 26, .int), (k2 27, .int), (k2 28, .int)]) [3, 4, 5, 6, 7, 8, 9, 10] rfl) (hP.sub (ws' := wD g2 k2 d) [9, 10, 11, 12, 13, 14, 15, 16, 17] rfl) (ci := 6) (q0 := 0) rfl rfl, zw_go (hP.sub (ws' := wD g2 k2 d) [9, 10, 11, 12, 13, 14, 15, 16, 17] rfl) (hD.sub (ws' := wD g2 k2 d) [9, 10, 11, 12, 13, 14, 15, 16, 17] (by decide) rfl) (hK.sub (tys' := [(k2 21, .long), (k2 22, .int), (k2 23, .int), (k2 24, .int), (k2 25, .int), (k2 26, .int), (k2 27, .int), (k2 28, .int)]) [3, 4, 5, 6, 7, 8, 9, 10] rfl) (fun _ _ _ => trivial)⟩ rfl rfl hl.1 rfl (lv_room (Nat.le_of_ble_eq_true rfl)) d_law_249 ⟨(Nat.le_of_succ_le hc), (Nat.le_trans (Nat.le_add_right _ 6) hs)⟩) hP hD hS hA [9, 10, 11, 12, 13, 14, 15, 16, 17] [0, 1, 2, 3, 4, 5, 6, 7, 8, 18] [0, 1, 2, 3, 4, 5, 6, 7, 8, 10, 11, 12, 13, 14, 15, 16, 17, 18, 9] rfl rfl (by decide) (by decide) (by decide) (fun _ => rfl) (fun r2 d2 H locs hw2 hP hD hS => ?_)
  have hP : va_P D vwCl (wZ g1 k1 g2 k2 o co st d2 ov) H := hP
  have hD : va_D (fun q : Nat => s.heap.size ≤ q) (wZ g1 k1 g2 k2 o co st d2 ov) := hD
  obtain ⟨f1, f2⟩ := place_fa hRW
  have hF : RW st d2 := by rw [hw2.2]; exact f2
  refine lv_icmp_eq (tgt := 801) hx hb d_law_252 (by decide) (fun c9 => ?_) (fun c9 => ?_)
  · refine W.widen (k := cells + 1) (n := slots + 6) (Nat.le_add_right _ _) (Nat.le_add_right _ _) ?_
    exact kk _ _ _ _ _ _ hF hP hD hS (lv_sub hl [0, 1, 2, 3, 4] rfl)
  · exact absurd (by rw [hw1, hw2.1]; exact f1) c9
set_option maxHeartbeats 4000000 in
set_option maxRecDepth 100000 in
theorem ar_put {p : Program} {l : Launch} {e : Env} {s : State} {m : MethodId} {below : List Frame} {meth : Method} {c : Code} {D : va_G} {b L : Nat} {xs : Nat → Int32} {za zk zv : Nat → Nat} {g1 g2 : Nat → Nat} {k1 k2 : Nat → ClassId} {o : Nat} {co : ClassId} (hlt : l.stackTraces = false) (hx : p.tables.exec = Jvm.exec) (hb : c.code = code) (hml : c.maxLocals = 7) (hown : s.vm.findClass "WindowMachineLaw" = some m.cls) (ht : ∀ w9 ∈ zT, w9.before #[Value.ref b] s = true) (hX : va_X b L xs s s.heap) (hbl : b < s.heap.size) (hL : L ≤ 3072) (hZ : zh za zk zv (fun q : Nat => s.heap.size ≤ q) s) (hK : va_K D vwCl (tyZ k1 k2 co) s) {i cells slots : Nat} {st : SX} {d : SD} {ov : Nat → Int64} {H : Heap} {locs : List Loc} {ls : Array Slot} {Q : State → Prop} (hi : i + 6 ≤ L) (hc : cells + 1 ≤ 1053) (hs : slots + 6 ≤ 10093) (hRW : RW st d) (hP : va_P D vwCl (wZ g1 k1 g2 k2 o co st d ov) H) (hD : va_D (fun q : Nat => s.heap.size ≤ q) (wZ g1 k1 g2 k2 o co st d ov)) (hS : va_S (fun q : Nat => s.heap.size ≤ q) s.heap H locs) (hl : lv_has ls 7 [(0, .ref b), (1, .ref (g1 6)), (2, .ref (g2 20)), (3, .ref o), (4, .int (nI i))])
    (kk : ∀ (st : SX) (d : SD) (ov : Nat → Int64) (H : Heap) (locs : List Loc) (ls : Array Slot), RW st d → va_P D vwCl (wZ g1 k1 g2 k2 o co st d ov) H → va_D (fun q : Nat => s.heap.size ≤ q) (wZ g1 k1 g2 k2 o co st d ov) → va_S (fun q : Nat => s.heap.size ≤ q) s.heap H locs → lv_has ls 7 [(0, .ref b), (1, .ref (g1 6)), (2, .ref (g2 20)), (3, .ref o), (4, .int (nI i))] → W p l e room_1 s m #[Value.ref b] below meth c H locs (cells + 1) (slots + 6) Q (F0 m 801 ls [])) : W p l e room_1 s m #[Value.ref b] below meth c H locs cells slots Q (F0 m 257 ls []) := by
  have hA : ∀ q : Nat, s.heap.size ≤ q → (fun q : Nat => s.heap.size ≤ q) q := fun _ h => h
  have hbA : ¬ (fun q : Nat => s.heap.size ≤ q) b := Nat.not_le.mpr hbl
  refine lv_aload_n hx hb d_law_257 rfl (lv_at hl 1 rfl) ?_
  refine lv_aload_n hx hb d_law_258 rfl (lv_at hl 0 rfl) ?_
  refine lv_iload hx hb d_law_259 (lv_at hl 4 rfl) ?_
  refine lv_iconst (v := (1 : Int32)) hx hb d_law_261 (by decide) ?_
  refine lv_iadd hx hb d_law_262 ?_
  refine va_sld hx hb hX hbl hbA hS (ix_in (i := i) (k := 1) (L := L) (v := (1 : Int32)) (by decide) (by omega) hL) d_law_263 ?_
  refine lv_aload_n hx hb d_law_264 rfl (lv_at hl 0 rfl) ?_
  refine lv_iload hx hb d_law_265 (lv_at hl 4 rfl) ?_
  refine lv_iconst (v := (2 : Int32)) hx hb d_law_267 (by decide) ?_
  refine lv_iadd hx hb d_law_268 ?_
  refine va_sld hx hb hX hbl hbA hS (ix_in (i := i) (k := 2) (L := L) (v := (2 : Int32)) (by decide) (by omega) hL) d_law_269 ?_
  refine lv_aload_n hx hb d_law_270 rfl (lv_at hl 3 rfl) ?_
  refine zc_iM (w2 := fun u9 => wZ g1 k1 g2 k2 o co u9.1 d u9.2) (vx_runSW (As := [.ref (g1 6), .int (xs ((nI i) + (1 : Int32)).toNatClampNeg), .int (xs ((nI i) + (2 : Int32)).toNatClampNeg), .ref o]) (rest := []) ⟨hx, hb, hml, hown, ht⟩ (mt_L_put l hlt D za zk zv g1 k1 o co H.size st ov (xs ((nI i) + (1 : Int32)).toNatClampNeg) (xs ((nI i) + (2 : Int32)).toNatClampNeg)) (vx_cwSW 4 ht (zgOW zw_474 zw_475 zw_0 zw_476) rfl rfl rfl kd_L_put.2 ⟨Nat.le_of_ble_eq_true rfl, Nat.le_of_ble_eq_true rfl⟩) ⟨zw_blind zh_bl, zw_go (hP.sub (ws' := wL g1 k1 o co st ov) [0, 1, 2, 3, 4, 5, 6, 7, 8, 18] rfl) (hD.sub (ws' := wL g1 k1 o co st ov) [0, 1, 2, 3, 4, 5, 6, 7, 8, 18] (by decide) rfl) (hK.sub (tys' := [(k1 0, .int), (k1 1, .int), (k1 2, .char), (co, .long)]) [0, 1, 2, 11] rfl) (fun U hU hW9 => zh_go hZ hS (va_free (wc := wL g1 k1 o co st ov) hD hS hA [0, 1, 2, 3, 4, 5, 6, 7, 8, 18] rfl) hU hW9)⟩ rfl rfl hl.1 rfl (lv_room (Nat.le_of_ble_eq_true rfl)) d_law_271 ⟨hc, hs⟩) hP hD hS hA [0, 1, 2, 3, 4, 5, 6, 7, 8, 18] [9, 10, 11, 12, 13, 14, 15, 16, 17] [9, 10, 11, 12, 13, 14, 15, 16, 17, 0, 1, 2, 3, 4, 5, 6, 7, 8, 18] rfl rfl (by decide) (by decide) (by decide) (fun _ => rfl) (fun r u H locs hw hP hD hS => ?_)
  have hP : va_P D vwCl (wZ g1 k1 g2 k2 o co u.1 d u.2) H := hP
  have hD : va_D (fun q : Nat => s.heap.size ≤ q) (wZ g1 k1 g2 k2 o co u.1 d u.2) := hD
  refine lv_istore (lv' := [(5, .int r), (0, .ref b), (1, .ref (g1 6)), (2, .ref (g2 20)), (3, .ref o), (4, .int (nI i))]) hx hb d_law_274 hl (by decide) rfl (fun ls hl => ?_)
  refine lv_aload_n hx hb d_law_276 rfl (lv_at hl 3 rfl) ?_
  refine lv_aload_n hx hb d_law_277 rfl (lv_at hl 1 rfl) ?_
  refine lv_iload hx hb d_law_278 (lv_at hl 5 rfl) ?_
  refine lv_iconst (v := (1 : Int32)) hx hb d_law_280 (by decide) ?_
  refine lv_iadd hx hb d_law_281 ?_
  refine va_sld hx hb hX hbl hbA hS (ix_in (i := i) (k := 1) (L := L) (v := (1 : Int32)) (by decide) (by omega) hL) d_law_282 ?_
  refine lv_aload_n hx hb d_law_283 rfl (lv_at hl 1 rfl) ?_
  refine lv_iload hx hb d_law_284 (lv_at hl 5 rfl) ?_
  refine lv_iconst (v := (2 : Int32)) hx hb d_law_286 (by decide) ?_
  refine lv_iadd hx hb d_law_287 ?_
  refine va_sld hx hb hX hbl hbA hS (ix_in (i := i) (k := 2) (L := L) (v := (2 : Int32)) (by decide) (by omega) hL) d_law_288 ?_
  refine zc_i (w2 := fun u9 => wZ g1 k1 g2 k2 o co u.1 u9 u.2) (va_runV (As := [.int (xs ((nI i) + (1 : Int32)).toNatClampNeg), .int (xs ((nI i) + (2 : Int32)).toNatClampNeg)]) (rest := []) ⟨hx, hb, hml, hown, ht⟩ (mt_D_put l D g2 k2 H.size d (xs ((nI i) + (1 : Int32)).toNatClampNeg) (xs ((nI i) + (2 : Int32)).toNatClampNeg)) (cwV 2 ht (zgV zw_953 zw_954 zw_955 zw_7 zw_956) rfl rfl rfl kd_D_put ⟨Nat.le_of_ble_eq_true rfl, Nat.le_of_ble_eq_true rfl⟩) ⟨zw_blind zw_tt, va_recv (hK.sub (tys' := [(k2 21, .long), (k2 22, .int), (k2 23, .int), (k2 24, .int), (k2 25, .int), (k2 26, .int), (k2 27, .int), (k2 28, .int)]) [3, 4, 5, 6, 7, 8, 9, 10] rfl) (hP.sub (ws' := wD g2 k2 d) [9, 10, 11, 12, 13, 14, 15, 16, 17] rfl) (ci := 6) (q0 := 0) rfl rfl, zw_go (hP.sub (ws' := wD g2 k2 d) [9, 10, 11, 12, 13, 14, 15, 16, 17] rfl) (hD.sub (ws' := wD g2 k2 d) [9, 10, 11, 12, 13, 14, 15, 16, 17] (by decide) rfl) (hK.sub (tys' := [(k2 21, .long), (k2 22, .int), (k2 23, .int), (k2 24, .int), (k2 25, .int), (k2 26, .int), (k2 27, .int), (k2 28, .int)]) [3, 4, 5, 6, 7, 8, 9, 10] rfl) (fun _ _ _ => trivial)⟩ rfl rfl hl.1 rfl (lv_room (Nat.le_of_ble_eq_true rfl)) d_law_289 ⟨hc, hs⟩) hP hD hS hA [9, 10, 11, 12, 13, 14, 15, 16, 17] [0, 1, 2, 3, 4, 5, 6, 7, 8, 18] [0, 1, 2, 3, 4, 5, 6, 7, 8, 10, 11, 12, 13, 14, 15, 16, 17, 18, 9] rfl rfl (by decide) (by decide) (by decide) (fun _ => rfl) (fun r1 d2 H locs hw1 hP hD hS => ?_)
  have hP : va_P D vwCl (wZ g1 k1 g2 k2 o co u.1 d2 u.2) H := hP
  have hD : va_D (fun q : Nat => s.heap.size ≤ q) (wZ g1 k1 g2 k2 o co u.1 d2 u.2) := hD
  refine lv_istore (lv' := [(6, .int r1), (5, .int r), (0, .ref b), (1, .ref (g1 6)), (2, .ref (g2 20)), (3, .ref o), (4, .int (nI i))]) hx hb d_law_292 hl (by decide) rfl (fun ls hl => ?_)
  refine lv_aload_n hx hb d_law_294 rfl (lv_at hl 4 rfl) ?_
  refine zc_i (w2 := fun _ => wZ g1 k1 g2 k2 o co u.1 d2 u.2) (va_runV (As := []) (rest := []) ⟨hx, hb, hml, hown, ht⟩ (mt_D_thrown l D g2 k2 H.size d2) (cwV 0 ht (zgV zw_949 zw_950 zw_951 zw_7 zw_952) rfl rfl rfl kd_D_thrown ⟨Nat.le_of_ble_eq_true rfl, Nat.le_of_ble_eq_true rfl⟩) ⟨zw_blind zw_tt, va_recv (hK.sub (tys' := [(k2 21, .long), (k2 22, .int), (k2 23, .int), (k2 24, .int), (k2 25, .int), (k2 26, .int), (k2 27, .int), (k2 28, .int)]) [3, 4, 5, 6, 7, 8, 9, 10] rfl) (hP.sub (ws' := wD g2 k2 d2) [9, 10, 11, 12, 13, 14, 15, 16, 17] rfl) (ci := 6) (q0 := 0) rfl rfl, zw_go (hP.sub (ws' := wD g2 k2 d2) [9, 10, 11, 12, 13, 14, 15, 16, 17] rfl) (hD.sub (ws' := wD g2 k2 d2) [9, 10, 11, 12, 13, 14, 15, 16, 17] (by decide) rfl) (hK.sub (tys' := [(k2 21, .long), (k2 22, .int), (k2 23, .int), (k2 24, .int), (k2 25, .int), (k2 26, .int), (k2 27, .int), (k2 28, .int)]) [3, 4, 5, 6, 7, 8, 9, 10] rfl) (fun _ _ _ => trivial)⟩ rfl rfl hl.1 rfl (lv_room (Nat.le_of_ble_eq_true rfl)) d_law_295 ⟨hc, hs⟩) hP hD hS hA [9, 10, 11, 12, 13, 14, 15, 16, 17] [0, 1, 2, 3, 4, 5, 6, 7, 8, 18] [0, 1, 2, 3, 4, 5, 6, 7, 8, 10, 11, 12, 13, 14, 15, 16, 17, 18, 9] rfl rfl (by decide) (by decide) (by decide) (fun _ => rfl) (fun r2 _ H locs hw2 hP hD hS => ?_)
  have hP : va_P D vwCl (wZ g1 k1 g2 k2 o co u.1 d2 u.2) H := hP
  have hD : va_D (fun q : Nat => s.heap.size ≤ q) (wZ g1 k1 g2 k2 o co u.1 d2 u.2) := hD
  refine lv_iload hx hb d_law_298 (lv_at hl 1 rfl) ?_
  obtain ⟨f1, f2, hF⟩ := fa_end (put_fa hRW (xs ((nI i) + (1 : Int32)).toNatClampNeg) (xs ((nI i) + (2 : Int32)).toNatClampNeg)) hw hw1 hw2
  refine lv_icmp_eq (tgt := 305) hx hb d_law_300 (by decide) (fun c9 => ?_) (fun c9 => absurd f1 c9)
  refine lv_iload hx hb d_law_305 (lv_at hl 1 rfl) ?_
  refine lv_if_ne (tgt := 322) hx hb d_law_307 (by decide) (fun _ => ?_) (fun c0 => ?_)
  · refine lv_goto (tgt := 801) hx hb d_law_322 (by decide) ?_
    exact kk _ _ _ _ _ _ hF hP hD hS (lv_sub hl [2, 3, 4, 5, 6] rfl)
  · refine lv_aload_n hx hb d_law_310 rfl (lv_at hl 5 rfl) ?_
    refine lv_iconst (v := (0 : Int32)) hx hb d_law_311 (by decide) ?_
    refine va_lald hx hb hK hP 18 11 rfl rfl (by unfold vp_in; decide) d_law_312 ?_
    refine lv_iload hx hb d_law_313 (lv_at hl 0 rfl) ?_
    refine lv_i2l (v := r1.toInt64) hx hb d_law_315 rfl ?_
    refine W.lcmp hx hb d_law_316 ?_
    refine lv_if_eq (tgt := 322) hx hb d_law_317 (by decide) (fun _ => ?_) (fun c9 => absurd (cmp_0 (f2 c0)) c9)
    refine lv_goto (tgt := 801) hx hb d_law_322 (by decide) ?_
    exact kk _ _ _ _ _ _ hF hP hD hS (lv_sub hl [2, 3, 4, 5, 6] rfl)
set_option maxHeartbeats 4000000 in
set_option maxRecDepth 100000 in
theorem ar_letters {p : Program} {l : Launch} {e : Env} {s : State} {m : MethodId} {below : List Frame} {meth : Method} {c : Code} {D : va_G} {b L : Nat} {xs : Nat → Int32} {za zk zv : Nat → Nat} {g1 g2 : Nat → Nat} {k1 k2 : Nat → ClassId} {o : Nat} {co : ClassId} (hlt : l.stackTraces = false) (hx : p.tables.exec = Jvm.exec) (hb : c.code = code) (hml : c.maxLocals = 7) (hown : s.vm.findClass "WindowMachineLaw" = some m.cls) (ht : ∀ w9 ∈ zT, w9.before #[Value.ref b] s = true) (hX : va_X b L xs s s.heap) (hbl : b < s.heap.size) (hL : L ≤ 3072) (hZ : zh za zk zv (fun q : Nat => s.heap.size ≤ q) s) (hK : va_K D vwCl (tyZ k1 k2 co) s) {i cells slots : Nat} {st : SX} {d : SD} {ov : Nat → Int64} {H : Heap} {locs : List Loc} {ls : Array Slot} {Q : State → Prop} (hi : i + 6 ≤ L) (hc : cells + 1 ≤ 1053) (hs : slots + 6 ≤ 10093) (hRW : RW st d) (hP : va_P D vwCl (wZ g1 k1 g2 k2 o co st d ov) H) (hD : va_D (fun q : Nat => s.heap.size ≤ q) (wZ g1 k1 g2 k2 o co st d ov)) (hS : va_S (fun q : Nat => s.heap.size ≤ q) s.heap H locs) (hl : lv_has ls 7 [(0, .ref b), (1, .ref (g1 6)), (2, .ref (g2 20)), (3, .ref o), (4, .int (nI i))])
    (kk : ∀ (st : SX) (d : SD) (ov : Nat → Int64) (H : Heap) (locs : List Loc) (ls : Array Slot), RW st d → va_P D vwCl (wZ g1 k1 g2 k2 o co st d ov) H → va_D (fun q : Nat => s.heap.size ≤ q) (wZ g1 k1 g2 k2 o co st d ov) → va_S (fun q : Nat => s.heap.size ≤ q) s.heap H locs → lv_has ls 7 [(0, .ref b), (1, .ref (g1 6)), (2, .ref (g2 20)), (3, .ref o), (4, .int (nI i))] → W p l e room_1 s m #[Value.ref b] below meth c H locs (cells + 1) (slots + 6) Q (F0 m 801 ls [])) : W p l e room_1 s m #[Value.ref b] below meth c H locs cells slots Q (F0 m 100 ls []) := by
  have hA : ∀ q : Nat, s.heap.size ≤ q → (fun q : Nat => s.heap.size ≤ q) q := fun _ h => h
  have hbA : ¬ (fun q : Nat => s.heap.size ≤ q) b := Nat.not_le.mpr hbl
  refine lv_aload_n hx hb d_law_100 rfl (lv_at hl 1 rfl) ?_
  refine lv_aload_n hx hb d_law_101 rfl (lv_at hl 0 rfl) ?_
  refine lv_iload hx hb d_law_102 (lv_at hl 4 rfl) ?_
  refine lv_iconst (v := (1 : Int32)) hx hb d_law_104 (by decide) ?_
  refine lv_iadd hx hb d_law_105 ?_
  refine va_sld hx hb hX hbl hbA hS (ix_in (i := i) (k := 1) (L := L) (v := (1 : Int32)) (by decide) (by omega) hL) d_law_106 ?_
  refine lv_i2l (v := (xs ((nI i) + (1 : Int32)).toNatClampNeg).toInt64) hx hb d_law_107 rfl ?_
  refine lv_bipush (v := (32 : Int32)) hx hb d_law_108 (by decide) ?_
  refine lv_lshl (v := zlshl ((xs ((nI i) + (1 : Int32)).toNatClampNeg).toInt64) (32 : Int32)) hx hb d_law_110 rfl ?_
  refine lv_aload_n hx hb d_law_111 rfl (lv_at hl 0 rfl) ?_
  refine lv_iload hx hb d_law_112 (lv_at hl 4 rfl) ?_
  refine lv_iconst (v := (2 : Int32)) hx hb d_law_114 (by decide) ?_
  refine lv_iadd hx hb d_law_115 ?_
  refine va_sld hx hb hX hbl hbA hS (ix_in (i := i) (k := 2) (L := L) (v := (2 : Int32)) (by decide) (by omega) hL) d_law_116 ?_
  refine lv_i2l (v := (xs ((nI i) + (2 : Int32)).toNatClampNeg).toInt64) hx hb d_law_117 rfl ?_
  refine lv_ldc2 (v := (4294967295 : Int64)) hx hb hown (ht _ zw_1181) d_law_118 ?_
  refine lv_land hx hb d_law_121 ?_
  refine lv_lor hx hb d_law_122 ?_
  refine lv_aload_n hx hb d_law_123 rfl (lv_at hl 3 rfl) ?_
  refine zc_iM (w2 := fun u9 => wZ g1 k1 g2 k2 o co u9.1 d u9.2) (vx_runSW (As := [.ref (g1 6), .long ((zlshl ((xs ((nI i) + (1 : Int32)).toNatClampNeg).toInt64) (32 : Int32)) ||| (((xs ((nI i) + (2 : Int32)).toNatClampNeg).toInt64) &&& (4294967295 : Int64))), .ref o]) (rest := []) ⟨hx, hb, hml, hown, ht⟩ (mt_L_letters l hlt D za zk zv g1 k1 o co H.size st ov ((zlshl ((xs ((nI i) + (1 : Int32)).toNatClampNeg).toInt64) (32 : Int32)) ||| (((xs ((nI i) + (2 : Int32)).toNatClampNeg).toInt64) &&& (4294967295 : Int64))) (rw_lenX hRW)) (vx_cwSW 3 ht (zgOW zw_188 zw_189 zw_0 zw_190) rfl rfl rfl kd_L_letters.2 ⟨Nat.le_of_ble_eq_true rfl, Nat.le_of_ble_eq_true rfl⟩) ⟨zw_blind zh_bl, zw_go (hP.sub (ws' := wL g1 k1 o co st ov) [0, 1, 2, 3, 4, 5, 6, 7, 8, 18] rfl) (hD.sub (ws' := wL g1 k1 o co st ov) [0, 1, 2, 3, 4, 5, 6, 7, 8, 18] (by decide) rfl) (hK.sub (tys' := [(k1 0, .int), (k1 1, .int), (k1 2, .char), (co, .long)]) [0, 1, 2, 11] rfl) (fun U hU hW9 => zh_go hZ hS (va_free (wc := wL g1 k1 o co st ov) hD hS hA [0, 1, 2, 3, 4, 5, 6, 7, 8, 18] rfl) hU hW9)⟩ rfl rfl hl.1 rfl (lv_room (Nat.le_of_ble_eq_true rfl)) d_law_124 ⟨hc, hs⟩) hP hD hS hA [0, 1, 2, 3, 4, 5, 6, 7, 8, 18] [9, 10, 11, 12, 13, 14, 15, 16, 17] [9, 10, 11, 12, 13, 14, 15, 16, 17, 0, 1, 2, 3, 4, 5, 6, 7, 8, 18] rfl rfl (by decide) (by decide) (by decide) (fun _ => rfl) (fun r u H locs hw hP hD hS => ?_)
  have hP : va_P D vwCl (wZ g1 k1 g2 k2 o co u.1 d u.2) H := hP
  have hD : va_D (fun q : Nat => s.heap.size ≤ q) (wZ g1 k1 g2 k2 o co u.1 d u.2) := hD
  refine lv_istore (lv' := [(5, .int r), (0, .ref b), (1, .ref (g1 6)), (2, .ref (g2 20)), (3, .ref o), (4, .int (nI i))]) hx hb d_law_127 hl (by decide) rfl (fun ls hl => ?_)
  refine lv_aload_n hx hb d_law_129 rfl (lv_at hl 3 rfl) ?_
  refine lv_aload_n hx hb d_law_130 rfl (lv_at hl 1 rfl) ?_
  refine lv_iload hx hb d_law_131 (lv_at hl 5 rfl) ?_
  refine lv_iconst (v := (1 : Int32)) hx hb d_law_133 (by decide) ?_
  refine lv_iadd hx hb d_law_134 ?_
  refine va_sld hx hb hX hbl hbA hS (ix_in (i := i) (k := 1) (L := L) (v := (1 : Int32)) (by decide) (by omega) hL) d_law_135 ?_
  refine lv_i2l (v := (xs ((nI i) + (1 : Int32)).toNatClampNeg).toInt64) hx hb d_law_136 rfl ?_
  refine lv_bipush (v := (32 : Int32)) hx hb d_law_137 (by decide) ?_
  refine lv_lshl (v := zlshl ((xs ((nI i) + (1 : Int32)).toNatClampNeg).toInt64) (32 : Int32)) hx hb d_law_139 rfl ?_
  refine lv_aload_n hx hb d_law_140 rfl (lv_at hl 1 rfl) ?_
  refine lv_iload hx hb d_law_141 (lv_at hl 5 rfl) ?_
  refine lv_iconst (v := (2 : Int32)) hx hb d_law_143 (by decide) ?_
  refine lv_iadd hx hb d_law_144 ?_
  refine va_sld hx hb hX hbl hbA hS (ix_in (i := i) (k := 2) (L := L) (v := (2 : Int32)) (by decide) (by omega) hL) d_law_145 ?_
  refine lv_i2l (v := (xs ((nI i) + (2 : Int32)).toNatClampNeg).toInt64) hx hb d_law_146 rfl ?_
  refine lv_ldc2 (v := (4294967295 : Int64)) hx hb hown (ht _ zw_1181) d_law_147 ?_
  refine lv_land hx hb d_law_150 ?_
  refine lv_lor hx hb d_law_151 ?_
  refine zc_i (w2 := fun u9 => wZ g1 k1 g2 k2 o co u.1 u9 u.2) (va_runV (As := [.long ((zlshl ((xs ((nI i) + (1 : Int32)).toNatClampNeg).toInt64) (32 : Int32)) ||| (((xs ((nI i) + (2 : Int32)).toNatClampNeg).toInt64) &&& (4294967295 : Int64)))]) (rest := []) ⟨hx, hb, hml, hown, ht⟩ (mt_D_letters l D g2 k2 H.size d ((zlshl ((xs ((nI i) + (1 : Int32)).toNatClampNeg).toInt64) (32 : Int32)) ||| (((xs ((nI i) + (2 : Int32)).toNatClampNeg).toInt64) &&& (4294967295 : Int64))) (rw_lenD hRW)) (cwV 1 ht (zgV zw_1097 zw_1098 zw_1099 zw_7 zw_1100) rfl rfl rfl kd_D_letters ⟨Nat.le_of_ble_eq_true rfl, Nat.le_of_ble_eq_true rfl⟩) ⟨zw_blind zw_tt, va_recv (hK.sub (tys' := [(k2 21, .long), (k2 22, .int), (k2 23, .int), (k2 24, .int), (k2 25, .int), (k2 26, .int), (k2 27, .int), (k2 28, .int)]) [3, 4, 5, 6, 7, 8, 9, 10] rfl) (hP.sub (ws' := wD g2 k2 d) [9, 10, 11, 12, 13, 14, 15, 16, 17] rfl) (ci := 6) (q0 := 0) rfl rfl, zw_go (hP.sub (ws' := wD g2 k2 d) [9, 10, 11, 12, 13, 14, 15, 16, 17] rfl) (hD.sub (ws' := wD g2 k2 d) [9, 10, 11, 12, 13, 14, 15, 16, 17] (by decide) rfl) (hK.sub (tys' := [(k2 21, .long), (k2 22, .int), (k2 23, .int), (k2 24, .int), (k2 25, .int), (k2 26, .int), (k2 27, .int), (k2 28, .int)]) [3, 4, 5, 6, 7, 8, 9, 10] rfl) (fun _ _ _ => trivial)⟩ rfl rfl hl.1 rfl (lv_room (Nat.le_of_ble_eq_true rfl)) d_law_152 ⟨hc, hs⟩) hP hD hS hA [9, 10, 11, 12, 13, 14, 15, 16, 17] [0, 1, 2, 3, 4, 5, 6, 7, 8, 18] [0, 1, 2, 3, 4, 5, 6, 7, 8, 10, 11, 12, 13, 14, 15, 16, 17, 18, 9] rfl rfl (by decide) (by decide) (by decide) (fun _ => rfl) (fun r1 d2 H locs hw1 hP hD hS => ?_)
  have hP : va_P D vwCl (wZ g1 k1 g2 k2 o co u.1 d2 u.2) H := hP
  have hD : va_D (fun q : Nat => s.heap.size ≤ q) (wZ g1 k1 g2 k2 o co u.1 d2 u.2) := hD
  refine lv_istore (lv' := [(6, .int r1), (5, .int r), (0, .ref b), (1, .ref (g1 6)), (2, .ref (g2 20)), (3, .ref o), (4, .int (nI i))]) hx hb d_law_155 hl (by decide) rfl (fun ls hl => ?_)
  refine lv_aload_n hx hb d_law_157 rfl (lv_at hl 4 rfl) ?_
  refine zc_i (w2 := fun _ => wZ g1 k1 g2 k2 o co u.1 d2 u.2) (va_runV (As := []) (rest := []) ⟨hx, hb, hml, hown, ht⟩ (mt_D_thrown l D g2 k2 H.size d2) (cwV 0 ht (zgV zw_949 zw_950 zw_951 zw_7 zw_952) rfl rfl rfl kd_D_thrown ⟨Nat.le_of_ble_eq_true rfl, Nat.le_of_ble_eq_true rfl⟩) ⟨zw_blind zw_tt, va_recv (hK.sub (tys' := [(k2 21, .long), (k2 22, .int), (k2 23, .int), (k2 24, .int), (k2 25, .int), (k2 26, .int), (k2 27, .int), (k2 28, .int)]) [3, 4, 5, 6, 7, 8, 9, 10] rfl) (hP.sub (ws' := wD g2 k2 d2) [9, 10, 11, 12, 13, 14, 15, 16, 17] rfl) (ci := 6) (q0 := 0) rfl rfl, zw_go (hP.sub (ws' := wD g2 k2 d2) [9, 10, 11, 12, 13, 14, 15, 16, 17] rfl) (hD.sub (ws' := wD g2 k2 d2) [9, 10, 11, 12, 13, 14, 15, 16, 17] (by decide) rfl) (hK.sub (tys' := [(k2 21, .long), (k2 22, .int), (k2 23, .int), (k2 24, .int), (k2 25, .int), (k2 26, .int), (k2 27, .int), (k2 28, .int)]) [3, 4, 5, 6, 7, 8, 9, 10] rfl) (fun _ _ _ => trivial)⟩ rfl rfl hl.1 rfl (lv_room (Nat.le_of_ble_eq_true rfl)) d_law_158 ⟨hc, hs⟩) hP hD hS hA [9, 10, 11, 12, 13, 14, 15, 16, 17] [0, 1, 2, 3, 4, 5, 6, 7, 8, 18] [0, 1, 2, 3, 4, 5, 6, 7, 8, 10, 11, 12, 13, 14, 15, 16, 17, 18, 9] rfl rfl (by decide) (by decide) (by decide) (fun _ => rfl) (fun r2 _ H locs hw2 hP hD hS => ?_)
  have hP : va_P D vwCl (wZ g1 k1 g2 k2 o co u.1 d2 u.2) H := hP
  have hD : va_D (fun q : Nat => s.heap.size ≤ q) (wZ g1 k1 g2 k2 o co u.1 d2 u.2) := hD
  refine lv_iload hx hb d_law_161 (lv_at hl 1 rfl) ?_
  obtain ⟨f1, f2, hF⟩ := fa_end (letters_fa hRW ((zlshl ((xs ((nI i) + (1 : Int32)).toNatClampNeg).toInt64) (32 : Int32)) ||| (((xs ((nI i) + (2 : Int32)).toNatClampNeg).toInt64) &&& (4294967295 : Int64)))) hw hw1 hw2
  refine lv_icmp_eq (tgt := 168) hx hb d_law_163 (by decide) (fun c9 => ?_) (fun c9 => absurd f1 c9)
  refine lv_iload hx hb d_law_168 (lv_at hl 1 rfl) ?_
  refine lv_if_ne (tgt := 185) hx hb d_law_170 (by decide) (fun _ => ?_) (fun c0 => ?_)
  · refine lv_goto (tgt := 801) hx hb d_law_185 (by decide) ?_
    exact kk _ _ _ _ _ _ hF hP hD hS (lv_sub hl [2, 3, 4, 5, 6] rfl)
  · refine lv_aload_n hx hb d_law_173 rfl (lv_at hl 5 rfl) ?_
    refine lv_iconst (v := (0 : Int32)) hx hb d_law_174 (by decide) ?_
    refine va_lald hx hb hK hP 18 11 rfl rfl (by unfold vp_in; decide) d_law_175 ?_
    refine lv_iload hx hb d_law_176 (lv_at hl 0 rfl) ?_
    refine lv_i2l (v := r1.toInt64) hx hb d_law_178 rfl ?_
    refine W.lcmp hx hb d_law_179 ?_
    refine lv_if_eq (tgt := 185) hx hb d_law_180 (by decide) (fun _ => ?_) (fun c9 => absurd (cmp_0 (f2 c0)) c9)
    refine lv_goto (tgt := 801) hx hb d_law_185 (by decide) ?_
    exact kk _ _ _ _ _ _ hF hP hD hS (lv_sub hl [2, 3, 4, 5, 6] rfl)
