set_option maxHeartbeats 4000000 in
set_option maxRecDepth 100000 in
theorem ar_set {p : Program} {l : Launch} {e : Env} {s : State} {m : MethodId} {below : List Frame} {meth : Method} {c : Code} {D : va_G} {b L : Nat} {xs : Nat → Int32} {za zk zv : Nat → Nat} {g1 g2 : Nat → Nat} {k1 k2 : Nat → ClassId} {o : Nat} {co : ClassId} (hlt : l.stackTraces = false) (hx : p.tables.exec = Jvm.exec) (hb : c.code = code) (hml : c.maxLocals = 7) (hown : s.vm.findClass "WindowMachineLaw" = some m.cls) (ht : ∀ w9 ∈ zT, w9.before #[Value.ref b] s = true) (hX : va_X b L xs s s.heap) (hbl : b < s.heap.size) (hL : L ≤ 3072) (hZ : zh za zk zv (fun q : Nat => s.heap.size ≤ q) s) (hK : va_K D vwCl (tyZ k1 k2 co) s) {i cells slots : Nat} {st : SX} {d : SD} {ov : Nat → Int64} {H : Heap} {locs : List Loc} {ls : Array Slot} {Q : State → Prop} (hi : i + 6 ≤ L) (hc : cells + 1 ≤ 1053) (hs : slots + 6 ≤ 10093) (hRW : RW st d) (hP : va_P D vwCl (wZ g1 k1 g2 k2 o co st d ov) H) (hD : va_D (fun q : Nat => s.heap.size ≤ q) (wZ g1 k1 g2 k2 o co st d ov)) (hS : va_S (fun q : Nat => s.heap.size ≤ q) s.heap H locs) (hl : lv_has ls 7 [(0, .ref b), (1, .ref (g1 6)), (2, .ref (g2 20)), (3, .ref o), (4, .int (nI i))])
    (kk : ∀ (st : SX) (d : SD) (ov : Nat → Int64) (H : Heap) (locs : List Loc) (ls : Array Slot), RW st d → va_P D vwCl (wZ g1 k1 g2 k2 o co st d ov) H → va_D (fun q : Nat => s.heap.size ≤ q) (wZ g1 k1 g2 k2 o co st d ov) → va_S (fun q : Nat => s.heap.size ≤ q) s.heap H locs → lv_has ls 7 [(0, .ref b), (1, .ref (g1 6)), (2, .ref (g2 20)), (3, .ref o), (4, .int (nI i))] → W p l e room_1 s m #[Value.ref b] below meth c H locs (cells + 1) (slots + 6) Q (F0 m 801 ls [])) : W p l e room_1 s m #[Value.ref b] below meth c H locs cells slots Q (F0 m 493 ls []) := by
  have hA : ∀ q : Nat, s.heap.size ≤ q → (fun q : Nat => s.heap.size ≤ q) q := fun _ h => h
  have hbA : ¬ (fun q : Nat => s.heap.size ≤ q) b := Nat.not_le.mpr hbl
  refine lv_aload_n hx hb d_law_493 rfl (lv_at hl 1 rfl) ?_
  refine lv_aload_n hx hb d_law_494 rfl (lv_at hl 0 rfl) ?_
  refine lv_iload hx hb d_law_495 (lv_at hl 4 rfl) ?_
  refine lv_iconst (v := (1 : Int32)) hx hb d_law_497 (by decide) ?_
  refine lv_iadd hx hb d_law_498 ?_
  refine va_sld hx hb hX hbl hbA hS (ix_in (i := i) (k := 1) (L := L) (v := (1 : Int32)) (by decide) (by omega) hL) d_law_499 ?_
  refine lv_aload_n hx hb d_law_500 rfl (lv_at hl 0 rfl) ?_
  refine lv_iload hx hb d_law_501 (lv_at hl 4 rfl) ?_
  refine lv_iconst (v := (2 : Int32)) hx hb d_law_503 (by decide) ?_
  refine lv_iadd hx hb d_law_504 ?_
  refine va_sld hx hb hX hbl hbA hS (ix_in (i := i) (k := 2) (L := L) (v := (2 : Int32)) (by decide) (by omega) hL) d_law_505 ?_
  refine lv_aload_n hx hb d_law_506 rfl (lv_at hl 0 rfl) ?_
  refine lv_iload hx hb d_law_507 (lv_at hl 4 rfl) ?_
  refine lv_iconst (v := (3 : Int32)) hx hb d_law_509 (by decide) ?_
  refine lv_iadd hx hb d_law_510 ?_
  refine va_sld hx hb hX hbl hbA hS (ix_in (i := i) (k := 3) (L := L) (v := (3 : Int32)) (by decide) (by omega) hL) d_law_511 ?_
  refine lv_aload_n hx hb d_law_512 rfl (lv_at hl 3 rfl) ?_
  refine zc_iM (w2 := fun u9 => wZ g1 k1 g2 k2 o co u9.1 d u9.2) (vx_runSW (As := [.ref (g1 6), .int (xs ((nI i) + (1 : Int32)).toNatClampNeg), .int (xs ((nI i) + (2 : Int32)).toNatClampNeg), .int (xs ((nI i) + (3 : Int32)).toNatClampNeg), .ref o]) (rest := []) ⟨hx, hb, hml, hown, ht⟩ (mt_L_set l hlt D za zk zv g1 k1 o co H.size st ov (xs ((nI i) + (1 : Int32)).toNatClampNeg) (xs ((nI i) + (2 : Int32)).toNatClampNeg) (xs ((nI i) + (3 : Int32)).toNatClampNeg)) (vx_cwSW 5 ht (zgOW zw_712 zw_713 zw_0 zw_714) rfl rfl rfl kd_L_set.2 ⟨Nat.le_of_ble_eq_true rfl, Nat.le_of_ble_eq_true rfl⟩) ⟨zw_blind zh_bl, zw_go (hP.sub (ws' := wL g1 k1 o co st ov) [0, 1, 2, 3, 4, 5, 6, 7, 8, 18] rfl) (hD.sub (ws' := wL g1 k1 o co st ov) [0, 1, 2, 3, 4, 5, 6, 7, 8, 18] (by decide) rfl) (hK.sub (tys' := [(k1 0, .int), (k1 1, .int), (k1 2, .char), (co, .long)]) [0, 1, 2, 11] rfl) (fun U hU hW9 => zh_go hZ hS (va_free (wc := wL g1 k1 o co st ov) hD hS hA [0, 1, 2, 3, 4, 5, 6, 7, 8, 18] rfl) hU hW9)⟩ rfl rfl hl.1 rfl (lv_room (Nat.le_of_ble_eq_true rfl)) d_law_513 ⟨hc, hs⟩) hP hD hS hA [0, 1, 2, 3, 4, 5, 6, 7, 8, 18] [9, 10, 11, 12, 13, 14, 15, 16, 17] [9, 10, 11, 12, 13, 14, 15, 16, 17, 0, 1, 2, 3, 4, 5, 6, 7, 8, 18] rfl rfl (by decide) (by decide) (by decide) (fun _ => rfl) (fun r u H locs hw hP hD hS => ?_)
  have hP : va_P D vwCl (wZ g1 k1 g2 k2 o co u.1 d u.2) H := hP
  have hD : va_D (fun q : Nat => s.heap.size ≤ q) (wZ g1 k1 g2 k2 o co u.1 d u.2) := hD
  refine lv_istore (lv' := [(5, .int r), (0, .ref b), (1, .ref (g1 6)), (2, .ref (g2 20)), (3, .ref o), (4, .int (nI i))]) hx hb d_law_516 hl (by decide) rfl (fun ls hl => ?_)
  refine lv_aload_n hx hb d_law_518 rfl (lv_at hl 3 rfl) ?_
  refine lv_aload_n hx hb d_law_519 rfl (lv_at hl 1 rfl) ?_
  refine lv_iload hx hb d_law_520 (lv_at hl 5 rfl) ?_
  refine lv_iconst (v := (1 : Int32)) hx hb d_law_522 (by decide) ?_
  refine lv_iadd hx hb d_law_523 ?_
  refine va_sld hx hb hX hbl hbA hS (ix_in (i := i) (k := 1) (L := L) (v := (1 : Int32)) (by decide) (by omega) hL) d_law_524 ?_
  refine lv_aload_n hx hb d_law_525 rfl (lv_at hl 1 rfl) ?_
  refine lv_iload hx hb d_law_526 (lv_at hl 5 rfl) ?_
  refine lv_iconst (v := (2 : Int32)) hx hb d_law_528 (by decide) ?_
  refine lv_iadd hx hb d_law_529 ?_
  refine va_sld hx hb hX hbl hbA hS (ix_in (i := i) (k := 2) (L := L) (v := (2 : Int32)) (by decide) (by omega) hL) d_law_530 ?_
  refine lv_aload_n hx hb d_law_531 rfl (lv_at hl 1 rfl) ?_
  refine lv_iload hx hb d_law_532 (lv_at hl 5 rfl) ?_
  refine lv_iconst (v := (3 : Int32)) hx hb d_law_534 (by decide) ?_
  refine lv_iadd hx hb d_law_535 ?_
  refine va_sld hx hb hX hbl hbA hS (ix_in (i := i) (k := 3) (L := L) (v := (3 : Int32)) (by decide) (by omega) hL) d_law_536 ?_
  refine zc_i (w2 := fun u9 => wZ g1 k1 g2 k2 o co u.1 u9 u.2) (va_runV (As := [.int (xs ((nI i) + (1 : Int32)).toNatClampNeg), .int (xs ((nI i) + (2 : Int32)).toNatClampNeg), .int (xs ((nI i) + (3 : Int32)).toNatClampNeg)]) (rest := []) ⟨hx, hb, hml, hown, ht⟩ (mt_D_set l D g2 k2 H.size d (xs ((nI i) + (1 : Int32)).toNatClampNeg) (xs ((nI i) + (2 : Int32)).toNatClampNeg) (xs ((nI i) + (3 : Int32)).toNatClampNeg)) (cwV 3 ht (zgV zw_980 zw_981 zw_982 zw_7 zw_983) rfl rfl rfl kd_D_set ⟨Nat.le_of_ble_eq_true rfl, Nat.le_of_ble_eq_true rfl⟩) ⟨zw_blind zw_tt, va_recv (hK.sub (tys' := [(k2 21, .long), (k2 22, .int), (k2 23, .int), (k2 24, .int), (k2 25, .int), (k2 26, .int), (k2 27, .int), (k2 28, .int)]) [3, 4, 5, 6, 7, 8, 9, 10] rfl) (hP.sub (ws' := wD g2 k2 d) [9, 10, 11, 12, 13, 14, 15, 16, 17] rfl) (ci := 6) (q0 := 0) rfl rfl, zw_go (hP.sub (ws' := wD g2 k2 d) [9, 10, 11, 12, 13, 14, 15, 16, 17] rfl) (hD.sub (ws' := wD g2 k2 d) [9, 10, 11, 12, 13, 14, 15, 16, 17] (by decide) rfl) (hK.sub (tys' := [(k2 21, .long), (k2 22, .int), (k2 23, .int), (k2 24, .int), (k2 25, .int), (k2 26, .int), (k2 27, .int), (k2 28, .int)]) [3, 4, 5, 6, 7, 8, 9, 10] rfl) (fun _ _ _ => trivial)⟩ rfl rfl hl.1 rfl (lv_room (Nat.le_of_ble_eq_true rfl)) d_law_537 ⟨hc, hs⟩) hP hD hS hA [9, 10, 11, 12, 13, 14, 15, 16, 17] [0, 1, 2, 3, 4, 5, 6, 7, 8, 18] [0, 1, 2, 3, 4, 5, 6, 7, 8, 10, 11, 12, 13, 14, 15, 16, 17, 18, 9] rfl rfl (by decide) (by decide) (by decide) (fun _ => rfl) (fun r1 d2 H locs hw1 hP hD hS => ?_)
  have hP : va_P D vwCl (wZ g1 k1 g2 k2 o co u.1 d2 u.2) H := hP
  have hD : va_D (fun q : Nat => s.heap.size ≤ q) (wZ g1 k1 g2 k2 o co u.1 d2 u.2) := hD
  refine lv_istore (lv' := [(6, .int r1), (5, .int r), (0, .ref b), (1, .ref (g1 6)), (2, .ref (g2 20)), (3, .ref o), (4, .int (nI i))]) hx hb d_law_540 hl (by decide) rfl (fun ls hl => ?_)
  refine lv_aload_n hx hb d_law_542 rfl (lv_at hl 4 rfl) ?_
  refine zc_i (w2 := fun _ => wZ g1 k1 g2 k2 o co u.1 d2 u.2) (va_runV (As := []) (rest := []) ⟨hx, hb, hml, hown, ht⟩ (mt_D_thrown l D g2 k2 H.size d2) (cwV 0 ht (zgV zw_949 zw_950 zw_951 zw_7 zw_952) rfl rfl rfl kd_D_thrown ⟨Nat.le_of_ble_eq_true rfl, Nat.le_of_ble_eq_true rfl⟩) ⟨zw_blind zw_tt, va_recv (hK.sub (tys' := [(k2 21, .long), (k2 22, .int), (k2 23, .int), (k2 24, .int), (k2 25, .int), (k2 26, .int), (k2 27, .int), (k2 28, .int)]) [3, 4, 5, 6, 7, 8, 9, 10] rfl) (hP.sub (ws' := wD g2 k2 d2) [9, 10, 11, 12, 13, 14, 15, 16, 17] rfl) (ci := 6) (q0 := 0) rfl rfl, zw_go (hP.sub (ws' := wD g2 k2 d2) [9, 10, 11, 12, 13, 14, 15, 16, 17] rfl) (hD.sub (ws' := wD g2 k2 d2) [9, 10, 11, 12, 13, 14, 15, 16, 17] (by decide) rfl) (hK.sub (tys' := [(k2 21, .long), (k2 22, .int), (k2 23, .int), (k2 24, .int), (k2 25, .int), (k2 26, .int), (k2 27, .int), (k2 28, .int)]) [3, 4, 5, 6, 7, 8, 9, 10] rfl) (fun _ _ _ => trivial)⟩ rfl rfl hl.1 rfl (lv_room (Nat.le_of_ble_eq_true rfl)) d_law_543 ⟨hc, hs⟩) hP hD hS hA [9, 10, 11, 12, 13, 14, 15, 16, 17] [0, 1, 2, 3, 4, 5, 6, 7, 8, 18] [0, 1, 2, 3, 4, 5, 6, 7, 8, 10, 11, 12, 13, 14, 15, 16, 17, 18, 9] rfl rfl (by decide) (by decide) (by decide) (fun _ => rfl) (fun r2 _ H locs hw2 hP hD hS => ?_)
  have hP : va_P D vwCl (wZ g1 k1 g2 k2 o co u.1 d2 u.2) H := hP
  have hD : va_D (fun q : Nat => s.heap.size ≤ q) (wZ g1 k1 g2 k2 o co u.1 d2 u.2) := hD
  refine lv_iload hx hb d_law_546 (lv_at hl 1 rfl) ?_
  obtain ⟨f1, f2, hF⟩ := fa_end (set_fa hRW (xs ((nI i) + (1 : Int32)).toNatClampNeg) (xs ((nI i) + (2 : Int32)).toNatClampNeg) (xs ((nI i) + (3 : Int32)).toNatClampNeg)) hw hw1 hw2
  refine lv_icmp_eq (tgt := 553) hx hb d_law_548 (by decide) (fun c9 => ?_) (fun c9 => absurd f1 c9)
  refine lv_iload hx hb d_law_553 (lv_at hl 1 rfl) ?_
  refine lv_if_ne (tgt := 570) hx hb d_law_555 (by decide) (fun _ => ?_) (fun c0 => ?_)
  · refine lv_goto (tgt := 801) hx hb d_law_570 (by decide) ?_
    exact kk _ _ _ _ _ _ hF hP hD hS (lv_sub hl [2, 3, 4, 5, 6] rfl)
  · refine lv_aload_n hx hb d_law_558 rfl (lv_at hl 5 rfl) ?_
    refine lv_iconst (v := (0 : Int32)) hx hb d_law_559 (by decide) ?_
    refine va_lald hx hb hK hP 18 11 rfl rfl (by unfold vp_in; decide) d_law_560 ?_
    refine lv_iload hx hb d_law_561 (lv_at hl 0 rfl) ?_
    refine lv_i2l (v := r1.toInt64) hx hb d_law_563 rfl ?_
    refine W.lcmp hx hb d_law_564 ?_
    refine lv_if_eq (tgt := 570) hx hb d_law_565 (by decide) (fun _ => ?_) (fun c9 => absurd (cmp_0 (f2 c0)) c9)
    refine lv_goto (tgt := 801) hx hb d_law_570 (by decide) ?_
    exact kk _ _ _ _ _ _ hF hP hD hS (lv_sub hl [2, 3, 4, 5, 6] rfl)
set_option maxHeartbeats 4000000 in
set_option maxRecDepth 100000 in
theorem ar_register {p : Program} {l : Launch} {e : Env} {s : State} {m : MethodId} {below : List Frame} {meth : Method} {c : Code} {D : va_G} {b L : Nat} {xs : Nat → Int32} {za zk zv : Nat → Nat} {g1 g2 : Nat → Nat} {k1 k2 : Nat → ClassId} {o : Nat} {co : ClassId} (hlt : l.stackTraces = false) (hx : p.tables.exec = Jvm.exec) (hb : c.code = code) (hml : c.maxLocals = 7) (hown : s.vm.findClass "WindowMachineLaw" = some m.cls) (ht : ∀ w9 ∈ zT, w9.before #[Value.ref b] s = true) (hX : va_X b L xs s s.heap) (hbl : b < s.heap.size) (hL : L ≤ 3072) (hZ : zh za zk zv (fun q : Nat => s.heap.size ≤ q) s) (hK : va_K D vwCl (tyZ k1 k2 co) s) {i cells slots : Nat} {st : SX} {d : SD} {ov : Nat → Int64} {H : Heap} {locs : List Loc} {ls : Array Slot} {Q : State → Prop} (hi : i + 6 ≤ L) (hc : cells + 1 ≤ 1053) (hs : slots + 6 ≤ 10093) (hRW : RW st d) (hP : va_P D vwCl (wZ g1 k1 g2 k2 o co st d ov) H) (hD : va_D (fun q : Nat => s.heap.size ≤ q) (wZ g1 k1 g2 k2 o co st d ov)) (hS : va_S (fun q : Nat => s.heap.size ≤ q) s.heap H locs) (hl : lv_has ls 7 [(0, .ref b), (1, .ref (g1 6)), (2, .ref (g2 20)), (3, .ref o), (4, .int (nI i))])
    (kk : ∀ (st : SX) (d : SD) (ov : Nat → Int64) (H : Heap) (locs : List Loc) (ls : Array Slot), RW st d → va_P D vwCl (wZ g1 k1 g2 k2 o co st d ov) H → va_D (fun q : Nat => s.heap.size ≤ q) (wZ g1 k1 g2 k2 o co st d ov) → va_S (fun q : Nat => s.heap.size ≤ q) s.heap H locs → lv_has ls 7 [(0, .ref b), (1, .ref (g1 6)), (2, .ref (g2 20)), (3, .ref o), (4, .int (nI i))] → W p l e room_1 s m #[Value.ref b] below meth c H locs (cells + 1) (slots + 6) Q (F0 m 801 ls [])) : W p l e room_1 s m #[Value.ref b] below meth c H locs cells slots Q (F0 m 573 ls []) := by
  have hA : ∀ q : Nat, s.heap.size ≤ q → (fun q : Nat => s.heap.size ≤ q) q := fun _ h => h
  have hbA : ¬ (fun q : Nat => s.heap.size ≤ q) b := Nat.not_le.mpr hbl
  refine lv_aload_n hx hb d_law_573 rfl (lv_at hl 1 rfl) ?_
  refine lv_aload_n hx hb d_law_574 rfl (lv_at hl 0 rfl) ?_
  refine lv_iload hx hb d_law_575 (lv_at hl 4 rfl) ?_
  refine lv_iconst (v := (1 : Int32)) hx hb d_law_577 (by decide) ?_
  refine lv_iadd hx hb d_law_578 ?_
  refine va_sld hx hb hX hbl hbA hS (ix_in (i := i) (k := 1) (L := L) (v := (1 : Int32)) (by decide) (by omega) hL) d_law_579 ?_
  refine lv_aload_n hx hb d_law_580 rfl (lv_at hl 0 rfl) ?_
  refine lv_iload hx hb d_law_581 (lv_at hl 4 rfl) ?_
  refine lv_iconst (v := (2 : Int32)) hx hb d_law_583 (by decide) ?_
  refine lv_iadd hx hb d_law_584 ?_
  refine va_sld hx hb hX hbl hbA hS (ix_in (i := i) (k := 2) (L := L) (v := (2 : Int32)) (by decide) (by omega) hL) d_law_585 ?_
  refine lv_aload_n hx hb d_law_586 rfl (lv_at hl 3 rfl) ?_
  refine zc_iM (w2 := fun u9 => wZ g1 k1 g2 k2 o co u9.1 d u9.2) (vx_runSW (As := [.ref (g1 6), .int (xs ((nI i) + (1 : Int32)).toNatClampNeg), .int (xs ((nI i) + (2 : Int32)).toNatClampNeg), .ref o]) (rest := []) ⟨hx, hb, hml, hown, ht⟩ (mt_L_register l hlt D za zk zv g1 k1 o co H.size st ov (xs ((nI i) + (1 : Int32)).toNatClampNeg) (xs ((nI i) + (2 : Int32)).toNatClampNeg)) (vx_cwSW 4 ht (zgOW zw_725 zw_726 zw_0 zw_727) rfl rfl rfl kd_L_register.2 ⟨Nat.le_of_ble_eq_true rfl, Nat.le_of_ble_eq_true rfl⟩) ⟨zw_blind zh_bl, zw_go (hP.sub (ws' := wL g1 k1 o co st ov) [0, 1, 2, 3, 4, 5, 6, 7, 8, 18] rfl) (hD.sub (ws' := wL g1 k1 o co st ov) [0, 1, 2, 3, 4, 5, 6, 7, 8, 18] (by decide) rfl) (hK.sub (tys' := [(k1 0, .int), (k1 1, .int), (k1 2, .char), (co, .long)]) [0, 1, 2, 11] rfl) (fun U hU hW9 => zh_go hZ hS (va_free (wc := wL g1 k1 o co st ov) hD hS hA [0, 1, 2, 3, 4, 5, 6, 7, 8, 18] rfl) hU hW9)⟩ rfl rfl hl.1 rfl (lv_room (Nat.le_of_ble_eq_true rfl)) d_law_587 ⟨hc, hs⟩) hP hD hS hA [0, 1, 2, 3, 4, 5, 6, 7, 8, 18] [9, 10, 11, 12, 13, 14, 15, 16, 17] [9, 10, 11, 12, 13, 14, 15, 16, 17, 0, 1, 2, 3, 4, 5, 6, 7, 8, 18] rfl rfl (by decide) (by decide) (by decide) (fun _ => rfl) (fun r u H locs hw hP hD hS => ?_)
  have hP : va_P D vwCl (wZ g1 k1 g2 k2 o co u.1 d u.2) H := hP
  have hD : va_D (fun q : Nat => s.heap.size ≤ q) (wZ g1 k1 g2 k2 o co u.1 d u.2) := hD
  refine lv_istore (lv' := [(5, .int r), (0, .ref b), (1, .ref (g1 6)), (2, .ref (g2 20)), (3, .ref o), (4, .int (nI i))]) hx hb d_law_590 hl (by decide) rfl (fun ls hl => ?_)
  refine lv_aload_n hx hb d_law_592 rfl (lv_at hl 3 rfl) ?_
  refine lv_aload_n hx hb d_law_593 rfl (lv_at hl 1 rfl) ?_
  refine lv_iload hx hb d_law_594 (lv_at hl 5 rfl) ?_
  refine lv_iconst (v := (1 : Int32)) hx hb d_law_596 (by decide) ?_
  refine lv_iadd hx hb d_law_597 ?_
  refine va_sld hx hb hX hbl hbA hS (ix_in (i := i) (k := 1) (L := L) (v := (1 : Int32)) (by decide) (by omega) hL) d_law_598 ?_
  refine lv_aload_n hx hb d_law_599 rfl (lv_at hl 1 rfl) ?_
  refine lv_iload hx hb d_law_600 (lv_at hl 5 rfl) ?_
  refine lv_iconst (v := (2 : Int32)) hx hb d_law_602 (by decide) ?_
  refine lv_iadd hx hb d_law_603 ?_
  refine va_sld hx hb hX hbl hbA hS (ix_in (i := i) (k := 2) (L := L) (v := (2 : Int32)) (by decide) (by omega) hL) d_law_604 ?_
  refine zc_i (w2 := fun u9 => wZ g1 k1 g2 k2 o co u.1 u9 u.2) (va_runV (As := [.int (xs ((nI i) + (1 : Int32)).toNatClampNeg), .int (xs ((nI i) + (2 : Int32)).toNatClampNeg)]) (rest := []) ⟨hx, hb, hml, hown, ht⟩ (mt_D_register l D g2 k2 H.size d (xs ((nI i) + (1 : Int32)).toNatClampNeg) (xs ((nI i) + (2 : Int32)).toNatClampNeg)) (cwV 2 ht (zgV zw_994 zw_995 zw_996 zw_7 zw_997) rfl rfl rfl kd_D_register ⟨Nat.le_of_ble_eq_true rfl, Nat.le_of_ble_eq_true rfl⟩) ⟨zw_blind zw_tt, va_recv (hK.sub (tys' := [(k2 21, .long), (k2 22, .int), (k2 23, .int), (k2 24, .int), (k2 25, .int), (k2 26, .int), (k2 27, .int), (k2 28, .int)]) [3, 4, 5, 6, 7, 8, 9, 10] rfl) (hP.sub (ws' := wD g2 k2 d) [9, 10, 11, 12, 13, 14, 15, 16, 17] rfl) (ci := 6) (q0 := 0) rfl rfl, zw_go (hP.sub (ws' := wD g2 k2 d) [9, 10, 11, 12, 13, 14, 15, 16, 17] rfl) (hD.sub (ws' := wD g2 k2 d) [9, 10, 11, 12, 13, 14, 15, 16, 17] (by decide) rfl) (hK.sub (tys' := [(k2 21, .long), (k2 22, .int), (k2 23, .int), (k2 24, .int), (k2 25, .int), (k2 26, .int), (k2 27, .int), (k2 28, .int)]) [3, 4, 5, 6, 7, 8, 9, 10] rfl) (fun _ _ _ => trivial)⟩ rfl rfl hl.1 rfl (lv_room (Nat.le_of_ble_eq_true rfl)) d_law_605 ⟨hc, hs⟩) hP hD hS hA [9, 10, 11, 12, 13, 14, 15, 16, 17] [0, 1, 2, 3, 4, 5, 6, 7, 8, 18] [0, 1, 2, 3, 4, 5, 6, 7, 8, 10, 11, 12, 13, 14, 15, 16, 17, 18, 9] rfl rfl (by decide) (by decide) (by decide) (fun _ => rfl) (fun r1 d2 H locs hw1 hP hD hS => ?_)
  have hP : va_P D vwCl (wZ g1 k1 g2 k2 o co u.1 d2 u.2) H := hP
  have hD : va_D (fun q : Nat => s.heap.size ≤ q) (wZ g1 k1 g2 k2 o co u.1 d2 u.2) := hD
  refine lv_istore (lv' := [(6, .int r1), (5, .int r), (0, .ref b), (1, .ref (g1 6)), (2, .ref (g2 20)), (3, .ref o), (4, .int (nI i))]) hx hb d_law_608 hl (by decide) rfl (fun ls hl => ?_)
  refine lv_aload_n hx hb d_law_610 rfl (lv_at hl 4 rfl) ?_
  refine zc_i (w2 := fun _ => wZ g1 k1 g2 k2 o co u.1 d2 u.2) (va_runV (As := []) (rest := []) ⟨hx, hb, hml, hown, ht⟩ (mt_D_thrown l D g2 k2 H.size d2) (cwV 0 ht (zgV zw_949 zw_950 zw_951 zw_7 zw_952) rfl rfl rfl kd_D_thrown ⟨Nat.le_of_ble_eq_true rfl, Nat.le_of_ble_eq_true rfl⟩) ⟨zw_blind zw_tt, va_recv (hK.sub (tys' := [(k2 21, .long), (k2 22, .int), (k2 23, .int), (k2 24, .int), (k2 25, .int), (k2 26, .int), (k2 27, .int), (k2 28, .int)]) [3, 4, 5, 6, 7, 8, 9, 10] rfl) (hP.sub (ws' := wD g2 k2 d2) [9, 10, 11, 12, 13, 14, 15, 16, 17] rfl) (ci := 6) (q0 := 0) rfl rfl, zw_go (hP.sub (ws' := wD g2 k2 d2) [9, 10, 11, 12, 13, 14, 15, 16, 17] rfl) (hD.sub (ws' := wD g2 k2 d2) [9, 10, 11, 12, 13, 14, 15, 16, 17] (by decide) rfl) (hK.sub (tys' := [(k2 21, .long), (k2 22, .int), (k2 23, .int), (k2 24, .int), (k2 25, .int), (k2 26, .int), (k2 27, .int), (k2 28, .int)]) [3, 4, 5, 6, 7, 8, 9, 10] rfl) (fun _ _ _ => trivial)⟩ rfl rfl hl.1 rfl (lv_room (Nat.le_of_ble_eq_true rfl)) d_law_611 ⟨hc, hs⟩) hP hD hS hA [9, 10, 11, 12, 13, 14, 15, 16, 17] [0, 1, 2, 3, 4, 5, 6, 7, 8, 18] [0, 1, 2, 3, 4, 5, 6, 7, 8, 10, 11, 12, 13, 14, 15, 16, 17, 18, 9] rfl rfl (by decide) (by decide) (by decide) (fun _ => rfl) (fun r2 _ H locs hw2 hP hD hS => ?_)
  have hP : va_P D vwCl (wZ g1 k1 g2 k2 o co u.1 d2 u.2) H := hP
  have hD : va_D (fun q : Nat => s.heap.size ≤ q) (wZ g1 k1 g2 k2 o co u.1 d2 u.2) := hD
  refine lv_iload hx hb d_law_614 (lv_at hl 1 rfl) ?_
  obtain ⟨f1, f2, hF⟩ := fa_end (register_fa hRW (xs ((nI i) + (1 : Int32)).toNatClampNeg) (xs ((nI i) + (2 : Int32)).toNatClampNeg)) hw hw1 hw2
  refine lv_icmp_eq (tgt := 621) hx hb d_law_616 (by decide) (fun c9 => ?_) (fun c9 => absurd f1 c9)
  refine lv_iload hx hb d_law_621 (lv_at hl 1 rfl) ?_
  refine lv_if_ne (tgt := 638) hx hb d_law_623 (by decide) (fun _ => ?_) (fun c0 => ?_)
  · refine lv_goto (tgt := 801) hx hb d_law_638 (by decide) ?_
    exact kk _ _ _ _ _ _ hF hP hD hS (lv_sub hl [2, 3, 4, 5, 6] rfl)
  · refine lv_aload_n hx hb d_law_626 rfl (lv_at hl 5 rfl) ?_
    refine lv_iconst (v := (0 : Int32)) hx hb d_law_627 (by decide) ?_
    refine va_lald hx hb hK hP 18 11 rfl rfl (by unfold vp_in; decide) d_law_628 ?_
    refine lv_iload hx hb d_law_629 (lv_at hl 0 rfl) ?_
    refine lv_i2l (v := r1.toInt64) hx hb d_law_631 rfl ?_
    refine W.lcmp hx hb d_law_632 ?_
    refine lv_if_eq (tgt := 638) hx hb d_law_633 (by decide) (fun _ => ?_) (fun c9 => absurd (cmp_0 (f2 c0)) c9)
    refine lv_goto (tgt := 801) hx hb d_law_638 (by decide) ?_
    exact kk _ _ _ _ _ _ hF hP hD hS (lv_sub hl [2, 3, 4, 5, 6] rfl)
set_option maxHeartbeats 4000000 in
set_option maxRecDepth 100000 in
theorem ar_state {p : Program} {l : Launch} {e : Env} {s : State} {m : MethodId} {below : List Frame} {meth : Method} {c : Code} {D : va_G} {b L : Nat} {xs : Nat → Int32} {za zk zv : Nat → Nat} {g1 g2 : Nat → Nat} {k1 k2 : Nat → ClassId} {o : Nat} {co : ClassId} (hlt : l.stackTraces = false) (hx : p.tables.exec = Jvm.exec) (hb : c.code = code) (hml : c.maxLocals = 7) (hown : s.vm.findClass "WindowMachineLaw" = some m.cls) (ht : ∀ w9 ∈ zT, w9.before #[Value.ref b] s = true) (hX : va_X b L xs s s.heap) (hbl : b < s.heap.size) (hL : L ≤ 3072) (hZ : zh za zk zv (fun q : Nat => s.heap.size ≤ q) s) (hK : va_K D vwCl (tyZ k1 k2 co) s) {i cells slots : Nat} {st : SX} {d : SD} {ov : Nat → Int64} {H : Heap} {locs : List Loc} {ls : Array Slot} {Q : State → Prop} (hi : i + 6 ≤ L) (hc : cells + 1 ≤ 1053) (hs : slots + 6 ≤ 10093) (hRW : RW st d) (hP : va_P D vwCl (wZ g1 k1 g2 k2 o co st d ov) H) (hD : va_D (fun q : Nat => s.heap.size ≤ q) (wZ g1 k1 g2 k2 o co st d ov)) (hS : va_S (fun q : Nat => s.heap.size ≤ q) s.heap H locs) (hl : lv_has ls 7 [(0, .ref b), (1, .ref (g1 6)), (2, .ref (g2 20)), (3, .ref o), (4, .int (nI i))])
    (kk : ∀ (st : SX) (d : SD) (ov : Nat → Int64) (H : Heap) (locs : List Loc) (ls : Array Slot), RW st d → va_P D vwCl (wZ g1 k1 g2 k2 o co st d ov) H → va_D (fun q : Nat => s.heap.size ≤ q) (wZ g1 k1 g2 k2 o co st d ov) → va_S (fun q : Nat => s.heap.size ≤ q) s.heap H locs → lv_has ls 7 [(0, .ref b), (1, .ref (g1 6)), (2, .ref (g2 20)), (3, .ref o), (4, .int (nI i))] → W p l e room_1 s m #[Value.ref b] below meth c H locs (cells + 1) (slots + 6) Q (F0 m 801 ls [])) : W p l e room_1 s m #[Value.ref b] below meth c H locs cells slots Q (F0 m 641 ls []) := by
  have hA : ∀ q : Nat, s.heap.size ≤ q → (fun q : Nat => s.heap.size ≤ q) q := fun _ h => h
  have hbA : ¬ (fun q : Nat => s.heap.size ≤ q) b := Nat.not_le.mpr hbl
  refine lv_aload_n hx hb d_law_641 rfl (lv_at hl 1 rfl) ?_
  refine lv_aload_n hx hb d_law_642 rfl (lv_at hl 0 rfl) ?_
  refine lv_iload hx hb d_law_643 (lv_at hl 4 rfl) ?_
  refine lv_iconst (v := (1 : Int32)) hx hb d_law_645 (by decide) ?_
  refine lv_iadd hx hb d_law_646 ?_
  refine va_sld hx hb hX hbl hbA hS (ix_in (i := i) (k := 1) (L := L) (v := (1 : Int32)) (by decide) (by omega) hL) d_law_647 ?_
  refine lv_aload_n hx hb d_law_648 rfl (lv_at hl 3 rfl) ?_
  refine zc_iM (w2 := fun u9 => wZ g1 k1 g2 k2 o co u9.1 d u9.2) (vx_runSW (As := [.ref (g1 6), .int (xs ((nI i) + (1 : Int32)).toNatClampNeg), .ref o]) (rest := []) ⟨hx, hb, hml, hown, ht⟩ (mt_L_state l hlt D za zk zv g1 k1 o co H.size st ov (xs ((nI i) + (1 : Int32)).toNatClampNeg)) (vx_cwSW 3 ht (zgOW zw_732 zw_733 zw_0 zw_734) rfl rfl rfl kd_L_state.2 ⟨Nat.le_of_ble_eq_true rfl, Nat.le_of_ble_eq_true rfl⟩) ⟨zw_blind zh_bl, zw_go (hP.sub (ws' := wL g1 k1 o co st ov) [0, 1, 2, 3, 4, 5, 6, 7, 8, 18] rfl) (hD.sub (ws' := wL g1 k1 o co st ov) [0, 1, 2, 3, 4, 5, 6, 7, 8, 18] (by decide) rfl) (hK.sub (tys' := [(k1 0, .int), (k1 1, .int), (k1 2, .char), (co, .long)]) [0, 1, 2, 11] rfl) (fun U hU hW9 => zh_go hZ hS (va_free (wc := wL g1 k1 o co st ov) hD hS hA [0, 1, 2, 3, 4, 5, 6, 7, 8, 18] rfl) hU hW9)⟩ rfl rfl hl.1 rfl (lv_room (Nat.le_of_ble_eq_true rfl)) d_law_649 ⟨hc, hs⟩) hP hD hS hA [0, 1, 2, 3, 4, 5, 6, 7, 8, 18] [9, 10, 11, 12, 13, 14, 15, 16, 17] [9, 10, 11, 12, 13, 14, 15, 16, 17, 0, 1, 2, 3, 4, 5, 6, 7, 8, 18] rfl rfl (by decide) (by decide) (by decide) (fun _ => rfl) (fun r u H locs hw hP hD hS => ?_)
  have hP : va_P D vwCl (wZ g1 k1 g2 k2 o co u.1 d u.2) H := hP
  have hD : va_D (fun q : Nat => s.heap.size ≤ q) (wZ g1 k1 g2 k2 o co u.1 d u.2) := hD
  refine lv_istore (lv' := [(5, .int r), (0, .ref b), (1, .ref (g1 6)), (2, .ref (g2 20)), (3, .ref o), (4, .int (nI i))]) hx hb d_law_652 hl (by decide) rfl (fun ls hl => ?_)
  refine lv_aload_n hx hb d_law_654 rfl (lv_at hl 3 rfl) ?_
  refine lv_aload_n hx hb d_law_655 rfl (lv_at hl 1 rfl) ?_
  refine lv_iload hx hb d_law_656 (lv_at hl 5 rfl) ?_
  refine lv_iconst (v := (1 : Int32)) hx hb d_law_658 (by decide) ?_
  refine lv_iadd hx hb d_law_659 ?_
  refine va_sld hx hb hX hbl hbA hS (ix_in (i := i) (k := 1) (L := L) (v := (1 : Int32)) (by decide) (by omega) hL) d_law_660 ?_
  refine zc_i (w2 := fun u9 => wZ g1 k1 g2 k2 o co u.1 u9 u.2) (va_runV (As := [.int (xs ((nI i) + (1 : Int32)).toNatClampNeg)]) (rest := []) ⟨hx, hb, hml, hown, ht⟩ (mt_D_state l D g2 k2 H.size d (xs ((nI i) + (1 : Int32)).toNatClampNeg)) (cwV 1 ht (zgV zw_1086 zw_1087 zw_1088 zw_7 zw_1089) rfl rfl rfl kd_D_state ⟨Nat.le_of_ble_eq_true rfl, Nat.le_of_ble_eq_true rfl⟩) ⟨zw_blind zw_tt, va_recv (hK.sub (tys' := [(k2 21, .long), (k2 22, .int), (k2 23, .int), (k2 24, .int), (k2 25, .int), (k2 26, .int), (k2 27, .int), (k2 28, .int)]) [3, 4, 5, 6, 7, 8, 9, 10] rfl) (hP.sub (ws' := wD g2 k2 d) [9, 10, 11, 12, 13, 14, 15, 16, 17] rfl) (ci := 6) (q0 := 0) rfl rfl, zw_go (hP.sub (ws' := wD g2 k2 d) [9, 10, 11, 12, 13, 14, 15, 16, 17] rfl) (hD.sub (ws' := wD g2 k2 d) [9, 10, 11, 12, 13, 14, 15, 16, 17] (by decide) rfl) (hK.sub (tys' := [(k2 21, .long), (k2 22, .int), (k2 23, .int), (k2 24, .int), (k2 25, .int), (k2 26, .int), (k2 27, .int), (k2 28, .int)]) [3, 4, 5, 6, 7, 8, 9, 10] rfl) (fun _ _ _ => trivial)⟩ rfl rfl hl.1 rfl (lv_room (Nat.le_of_ble_eq_true rfl)) d_law_661 ⟨hc, hs⟩) hP hD hS hA [9, 10, 11, 12, 13, 14, 15, 16, 17] [0, 1, 2, 3, 4, 5, 6, 7, 8, 18] [0, 1, 2, 3, 4, 5, 6, 7, 8, 10, 11, 12, 13, 14, 15, 16, 17, 18, 9] rfl rfl (by decide) (by decide) (by decide) (fun _ => rfl) (fun r1 d2 H locs hw1 hP hD hS => ?_)
  have hP : va_P D vwCl (wZ g1 k1 g2 k2 o co u.1 d2 u.2) H := hP
  have hD : va_D (fun q : Nat => s.heap.size ≤ q) (wZ g1 k1 g2 k2 o co u.1 d2 u.2) := hD
  refine lv_istore (lv' := [(6, .int r1), (5, .int r), (0, .ref b), (1, .ref (g1 6)), (2, .ref (g2 20)), (3, .ref o), (4, .int (nI i))]) hx hb d_law_664 hl (by decide) rfl (fun ls hl => ?_)
  refine lv_aload_n hx hb d_law_666 rfl (lv_at hl 4 rfl) ?_
  refine zc_i (w2 := fun _ => wZ g1 k1 g2 k2 o co u.1 d2 u.2) (va_runV (As := []) (rest := []) ⟨hx, hb, hml, hown, ht⟩ (mt_D_thrown l D g2 k2 H.size d2) (cwV 0 ht (zgV zw_949 zw_950 zw_951 zw_7 zw_952) rfl rfl rfl kd_D_thrown ⟨Nat.le_of_ble_eq_true rfl, Nat.le_of_ble_eq_true rfl⟩) ⟨zw_blind zw_tt, va_recv (hK.sub (tys' := [(k2 21, .long), (k2 22, .int), (k2 23, .int), (k2 24, .int), (k2 25, .int), (k2 26, .int), (k2 27, .int), (k2 28, .int)]) [3, 4, 5, 6, 7, 8, 9, 10] rfl) (hP.sub (ws' := wD g2 k2 d2) [9, 10, 11, 12, 13, 14, 15, 16, 17] rfl) (ci := 6) (q0 := 0) rfl rfl, zw_go (hP.sub (ws' := wD g2 k2 d2) [9, 10, 11, 12, 13, 14, 15, 16, 17] rfl) (hD.sub (ws' := wD g2 k2 d2) [9, 10, 11, 12, 13, 14, 15, 16, 17] (by decide) rfl) (hK.sub (tys' := [(k2 21, .long), (k2 22, .int), (k2 23, .int), (k2 24, .int), (k2 25, .int), (k2 26, .int), (k2 27, .int), (k2 28, .int)]) [3, 4, 5, 6, 7, 8, 9, 10] rfl) (fun _ _ _ => trivial)⟩ rfl rfl hl.1 rfl (lv_room (Nat.le_of_ble_eq_true rfl)) d_law_667 ⟨hc, hs⟩) hP hD hS hA [9, 10, 11, 12, 13, 14, 15, 16, 17] [0, 1, 2, 3, 4, 5, 6, 7, 8, 18] [0, 1, 2, 3, 4, 5, 6, 7, 8, 10, 11, 12, 13, 14, 15, 16, 17, 18, 9] rfl rfl (by decide) (by decide) (by decide) (fun _ => rfl) (fun r2 _ H locs hw2 hP hD hS => ?_)
  have hP : va_P D vwCl (wZ g1 k1 g2 k2 o co u.1 d2 u.2) H := hP
  have hD : va_D (fun q : Nat => s.heap.size ≤ q) (wZ g1 k1 g2 k2 o co u.1 d2 u.2) := hD
  refine lv_iload hx hb d_law_670 (lv_at hl 1 rfl) ?_
  obtain ⟨f1, f2, hF⟩ := fa_end (state_fa hRW (xs ((nI i) + (1 : Int32)).toNatClampNeg)) hw hw1 hw2
  refine lv_icmp_eq (tgt := 677) hx hb d_law_672 (by decide) (fun c9 => ?_) (fun c9 => absurd f1 c9)
  refine lv_iload hx hb d_law_677 (lv_at hl 1 rfl) ?_
  refine lv_if_ne (tgt := 694) hx hb d_law_679 (by decide) (fun _ => ?_) (fun c0 => ?_)
  · refine lv_goto (tgt := 801) hx hb d_law_694 (by decide) ?_
    exact kk _ _ _ _ _ _ hF hP hD hS (lv_sub hl [2, 3, 4, 5, 6] rfl)
  · refine lv_aload_n hx hb d_law_682 rfl (lv_at hl 5 rfl) ?_
    refine lv_iconst (v := (0 : Int32)) hx hb d_law_683 (by decide) ?_
    refine va_lald hx hb hK hP 18 11 rfl rfl (by unfold vp_in; decide) d_law_684 ?_
    refine lv_iload hx hb d_law_685 (lv_at hl 0 rfl) ?_
    refine lv_i2l (v := r1.toInt64) hx hb d_law_687 rfl ?_
    refine W.lcmp hx hb d_law_688 ?_
    refine lv_if_eq (tgt := 694) hx hb d_law_689 (by decide) (fun _ => ?_) (fun c9 => absurd (cmp_0 (f2 c0)) c9)
    refine lv_goto (tgt := 801) hx hb d_law_694 (by decide) ?_
    exact kk _ _ _ _ _ _ hF hP hD hS (lv_sub hl [2, 3, 4, 5, 6] rfl)
set_option maxHeartbeats 4000000 in
set_option maxRecDepth 100000 in
theorem ar_mode {p : Program} {l : Launch} {e : Env} {s : State} {m : MethodId} {below : List Frame} {meth : Method} {c : Code} {D : va_G} {b L : Nat} {xs : Nat → Int32} {za zk zv : Nat → Nat} {g1 g2 : Nat → Nat} {k1 k2 : Nat → ClassId} {o : Nat} {co : ClassId} (hlt : l.stackTraces = false) (hx : p.tables.exec = Jvm.exec) (hb : c.code = code) (hml : c.maxLocals = 7) (hown : s.vm.findClass "WindowMachineLaw" = some m.cls) (ht : ∀ w9 ∈ zT, w9.before #[Value.ref b] s = true) (hX : va_X b L xs s s.heap) (hbl : b < s.heap.size) (hL : L ≤ 3072) (hZ : zh za zk zv (fun q : Nat => s.heap.size ≤ q) s) (hK : va_K D vwCl (tyZ k1 k2 co) s) {i cells slots : Nat} {st : SX} {d : SD} {ov : Nat → Int64} {H : Heap} {locs : List Loc} {ls : Array Slot} {Q : State → Prop} (hi : i + 6 ≤ L) (hc : cells + 1 ≤ 1053) (hs : slots + 6 ≤ 10093) (hRW : RW st d) (hP : va_P D vwCl (wZ g1 k1 g2 k2 o co st d ov) H) (hD : va_D (fun q : Nat => s.heap.size ≤ q) (wZ g1 k1 g2 k2 o co st d ov)) (hS : va_S (fun q : Nat => s.heap.size ≤ q) s.heap H locs) (hl : lv_has ls 7 [(0, .ref b), (1, .ref (g1 6)), (2, .ref (g2 20)), (3, .ref o), (4, .int (nI i))])
    (kk : ∀ (st : SX) (d : SD) (ov : Nat → Int64) (H : Heap) (locs : List Loc) (ls : Array Slot), RW st d → va_P D vwCl (wZ g1 k1 g2 k2 o co st d ov) H → va_D (fun q : Nat => s.heap.size ≤ q) (wZ g1 k1 g2 k2 o co st d ov) → va_S (fun q : Nat => s.heap.size ≤ q) s.heap H locs → lv_has ls 7 [(0, .ref b), (1, .ref (g1 6)), (2, .ref (g2 20)), (3, .ref o), (4, .int (nI i))] → W p l e room_1 s m #[Value.ref b] below meth c H locs (cells + 1) (slots + 6) Q (F0 m 801 ls [])) : W p l e room_1 s m #[Value.ref b] below meth c H locs cells slots Q (F0 m 697 ls []) := by
  have hA : ∀ q : Nat, s.heap.size ≤ q → (fun q : Nat => s.heap.size ≤ q) q := fun _ h => h
  have hbA : ¬ (fun q : Nat => s.heap.size ≤ q) b := Nat.not_le.mpr hbl
  refine lv_aload_n hx hb d_law_697 rfl (lv_at hl 1 rfl) ?_
  refine lv_aload_n hx hb d_law_698 rfl (lv_at hl 0 rfl) ?_
  refine lv_iload hx hb d_law_699 (lv_at hl 4 rfl) ?_
  refine lv_iconst (v := (1 : Int32)) hx hb d_law_701 (by decide) ?_
  refine lv_iadd hx hb d_law_702 ?_
  refine va_sld hx hb hX hbl hbA hS (ix_in (i := i) (k := 1) (L := L) (v := (1 : Int32)) (by decide) (by omega) hL) d_law_703 ?_
  refine lv_aload_n hx hb d_law_704 rfl (lv_at hl 0 rfl) ?_
  refine lv_iload hx hb d_law_705 (lv_at hl 4 rfl) ?_
  refine lv_iconst (v := (2 : Int32)) hx hb d_law_707 (by decide) ?_
  refine lv_iadd hx hb d_law_708 ?_
  refine va_sld hx hb hX hbl hbA hS (ix_in (i := i) (k := 2) (L := L) (v := (2 : Int32)) (by decide) (by omega) hL) d_law_709 ?_
  refine lv_aload_n hx hb d_law_710 rfl (lv_at hl 0 rfl) ?_
  refine lv_iload hx hb d_law_711 (lv_at hl 4 rfl) ?_
  refine lv_iconst (v := (3 : Int32)) hx hb d_law_713 (by decide) ?_
  refine lv_iadd hx hb d_law_714 ?_
  refine va_sld hx hb hX hbl hbA hS (ix_in (i := i) (k := 3) (L := L) (v := (3 : Int32)) (by decide) (by omega) hL) d_law_715 ?_
  refine lv_aload_n hx hb d_law_716 rfl (lv_at hl 0 rfl) ?_
  refine lv_iload hx hb d_law_717 (lv_at hl 4 rfl) ?_
  refine lv_iconst (v := (4 : Int32)) hx hb d_law_719 (by decide) ?_
  refine lv_iadd hx hb d_law_720 ?_
  refine va_sld hx hb hX hbl hbA hS (ix_in (i := i) (k := 4) (L := L) (v := (4 : Int32)) (by decide) (by omega) hL) d_law_721 ?_
  refine lv_aload_n hx hb d_law_722 rfl (lv_at hl 0 rfl) ?_
  refine lv_iload hx hb d_law_723 (lv_at hl 4 rfl) ?_
  refine lv_iconst (v := (5 : Int32)) hx hb d_law_725 (by decide) ?_
  refine lv_iadd hx hb d_law_726 ?_
  refine va_sld hx hb hX hbl hbA hS (ix_in (i := i) (k := 5) (L := L) (v := (5 : Int32)) (by decide) (by omega) hL) d_law_727 ?_
  refine lv_aload_n hx hb d_law_728 rfl (lv_at hl 3 rfl) ?_
  refine zc_iM (w2 := fun u9 => wZ g1 k1 g2 k2 o co u9.1 d u9.2) (vx_runSW (As := [.ref (g1 6), .int (xs ((nI i) + (1 : Int32)).toNatClampNeg), .int (xs ((nI i) + (2 : Int32)).toNatClampNeg), .int (xs ((nI i) + (3 : Int32)).toNatClampNeg), .int (xs ((nI i) + (4 : Int32)).toNatClampNeg), .int (xs ((nI i) + (5 : Int32)).toNatClampNeg), .ref o]) (rest := []) ⟨hx, hb, hml, hown, ht⟩ (mt_L_mode l hlt D za zk zv g1 k1 o co H.size st ov (xs ((nI i) + (1 : Int32)).toNatClampNeg) (xs ((nI i) + (2 : Int32)).toNatClampNeg) (xs ((nI i) + (3 : Int32)).toNatClampNeg) (xs ((nI i) + (4 : Int32)).toNatClampNeg) (xs ((nI i) + (5 : Int32)).toNatClampNeg)) (vx_cwSW 7 ht (zgOW zw_744 zw_745 zw_0 zw_746) rfl rfl rfl kd_L_mode.2 ⟨Nat.le_of_ble_eq_true rfl, Nat.le_of_ble_eq_true rfl⟩) ⟨zw_blind zh_bl, zw_go (hP.sub (ws' := wL g1 k1 o co st ov) [0, 1, 2, 3, 4, 5, 6, 7, 8, 18] rfl) (hD.sub (ws' := wL g1 k1 o co st ov) [0, 1, 2, 3, 4, 5, 6, 7, 8, 18] (by decide) rfl) (hK.sub (tys' := [(k1 0, .int), (k1 1, .int), (k1 2, .char), (co, .long)]) [0, 1, 2, 11] rfl) (fun U hU hW9 => zh_go hZ hS (va_free (wc := wL g1 k1 o co st ov) hD hS hA [0, 1, 2, 3, 4, 5, 6, 7, 8, 18] rfl) hU hW9)⟩ rfl rfl hl.1 rfl (lv_room (Nat.le_of_ble_eq_true rfl)) d_law_729 ⟨hc, hs⟩) hP hD hS hA [0, 1, 2, 3, 4, 5, 6, 7, 8, 18] [9, 10, 11, 12, 13, 14, 15, 16, 17] [9, 10, 11, 12, 13, 14, 15, 16, 17, 0, 1, 2, 3, 4, 5, 6, 7, 8, 18] rfl rfl (by decide) (by decide) (by decide) (fun _ => rfl) (fun r u H locs hw hP hD hS => ?_)
  have hP : va_P D vwCl (wZ g1 k1 g2 k2 o co u.1 d u.2) H := hP
  have hD : va_D (fun q : Nat => s.heap.size ≤ q) (wZ g1 k1 g2 k2 o co u.1 d u.2) := hD
  refine lv_istore (lv' := [(5, .int r), (0, .ref b), (1, .ref (g1 6)), (2, .ref (g2 20)), (3, .ref o), (4, .int (nI i))]) hx hb d_law_732 hl (by decide) rfl (fun ls hl => ?_)
  refine lv_aload_n hx hb d_law_734 rfl (lv_at hl 3 rfl) ?_
  refine lv_aload_n hx hb d_law_735 rfl (lv_at hl 1 rfl) ?_
  refine lv_iload hx hb d_law_736 (lv_at hl 5 rfl) ?_
  refine lv_iconst (v := (1 : Int32)) hx hb d_law_738 (by decide) ?_
  refine lv_iadd hx hb d_law_739 ?_
  refine va_sld hx hb hX hbl hbA hS (ix_in (i := i) (k := 1) (L := L) (v := (1 : Int32)) (by decide) (by omega) hL) d_law_740 ?_
  refine lv_aload_n hx hb d_law_741 rfl (lv_at hl 1 rfl) ?_
  refine lv_iload hx hb d_law_742 (lv_at hl 5 rfl) ?_
  refine lv_iconst (v := (2 : Int32)) hx hb d_law_744 (by decide) ?_
  refine lv_iadd hx hb d_law_745 ?_
  refine va_sld hx hb hX hbl hbA hS (ix_in (i := i) (k := 2) (L := L) (v := (2 : Int32)) (by decide) (by omega) hL) d_law_746 ?_
  refine lv_aload_n hx hb d_law_747 rfl (lv_at hl 1 rfl) ?_
  refine lv_iload hx hb d_law_748 (lv_at hl 5 rfl) ?_
  refine lv_iconst (v := (3 : Int32)) hx hb d_law_750 (by decide) ?_
  refine lv_iadd hx hb d_law_751 ?_
  refine va_sld hx hb hX hbl hbA hS (ix_in (i := i) (k := 3) (L := L) (v := (3 : Int32)) (by decide) (by omega) hL) d_law_752 ?_
  refine lv_aload_n hx hb d_law_753 rfl (lv_at hl 1 rfl) ?_
  refine lv_iload hx hb d_law_754 (lv_at hl 5 rfl) ?_
  refine lv_iconst (v := (4 : Int32)) hx hb d_law_756 (by decide) ?_
  refine lv_iadd hx hb d_law_757 ?_
  refine va_sld hx hb hX hbl hbA hS (ix_in (i := i) (k := 4) (L := L) (v := (4 : Int32)) (by decide) (by omega) hL) d_law_758 ?_
  refine lv_aload_n hx hb d_law_759 rfl (lv_at hl 1 rfl) ?_
  refine lv_iload hx hb d_law_760 (lv_at hl 5 rfl) ?_
  refine lv_iconst (v := (5 : Int32)) hx hb d_law_762 (by decide) ?_
  refine lv_iadd hx hb d_law_763 ?_
  refine va_sld hx hb hX hbl hbA hS (ix_in (i := i) (k := 5) (L := L) (v := (5 : Int32)) (by decide) (by omega) hL) d_law_764 ?_
  refine zc_i (w2 := fun u9 => wZ g1 k1 g2 k2 o co u.1 u9 u.2) (va_runV (As := [.int (xs ((nI i) + (1 : Int32)).toNatClampNeg), .int (xs ((nI i) + (2 : Int32)).toNatClampNeg), .int (xs ((nI i) + (3 : Int32)).toNatClampNeg), .int (xs ((nI i) + (4 : Int32)).toNatClampNeg), .int (xs ((nI i) + (5 : Int32)).toNatClampNeg)]) (rest := []) ⟨hx, hb, hml, hown, ht⟩ (mt_D_mode l D g2 k2 H.size d (xs ((nI i) + (1 : Int32)).toNatClampNeg) (xs ((nI i) + (2 : Int32)).toNatClampNeg) (xs ((nI i) + (3 : Int32)).toNatClampNeg) (xs ((nI i) + (4 : Int32)).toNatClampNeg) (xs ((nI i) + (5 : Int32)).toNatClampNeg)) (cwV 5 ht (zgV zw_1091 zw_1092 zw_1093 zw_7 zw_1094) rfl rfl rfl kd_D_mode ⟨Nat.le_of_ble_eq_true rfl, Nat.le_of_ble_eq_true rfl⟩) ⟨zw_blind zw_tt, va_recv (hK.sub (tys' := [(k2 21, .long), (k2 22, .int), (k2 23, .int), (k2 24, .int), (k2 25, .int), (k2 26, .int), (k2 27, .int), (k2 28, .int)]) [3, 4, 5, 6, 7, 8, 9, 10] rfl) (hP.sub (ws' := wD g2 k2 d) [9, 10, 11, 12, 13, 14, 15, 16, 17] rfl) (ci := 6) (q0 := 0) rfl rfl, zw_go (hP.sub (ws' := wD g2 k2 d) [9, 10, 11, 12, 13, 14, 15, 16, 17] rfl) (hD.sub (ws' := wD g2 k2 d) [9, 10, 11, 12, 13, 14, 15, 16, 17] (by decide) rfl) (hK.sub (tys' := [(k2 21, .long), (k2 22, .int), (k2 23, .int), (k2 24, .int), (k2 25, .int), (k2 26, .int), (k2 27, .int), (k2 28, .int)]) [3, 4, 5, 6, 7, 8, 9, 10] rfl) (fun _ _ _ => trivial)⟩ rfl rfl hl.1 rfl (lv_room (Nat.le_of_ble_eq_true rfl)) d_law_765 ⟨hc, hs⟩) hP hD hS hA [9, 10, 11, 12, 13, 14, 15, 16, 17] [0, 1, 2, 3, 4, 5, 6, 7, 8, 18] [0, 1, 2, 3, 4, 5, 6, 7, 8, 10, 11, 12, 13, 14, 15, 16, 17, 18, 9] rfl rfl (by decide) (by decide) (by decide) (fun _ => rfl) (fun r1 d2 H locs hw1 hP hD hS => ?_)
  have hP : va_P D vwCl (wZ g1 k1 g2 k2 o co u.1 d2 u.2) H := hP
  have hD : va_D (fun q : Nat => s.heap.size ≤ q) (wZ g1 k1 g2 k2 o co u.1 d2 u.2) := hD
  refine lv_istore (lv' := [(6, .int r1), (5, .int r), (0, .ref b), (1, .ref (g1 6)), (2, .ref (g2 20)), (3, .ref o), (4, .int (nI i))]) hx hb d_law_768 hl (by decide) rfl (fun ls hl => ?_)
  refine lv_aload_n hx hb d_law_770 rfl (lv_at hl 4 rfl) ?_
  refine zc_i (w2 := fun _ => wZ g1 k1 g2 k2 o co u.1 d2 u.2) (va_runV (As := []) (rest := []) ⟨hx, hb, hml, hown, ht⟩ (mt_D_thrown l D g2 k2 H.size d2) (cwV 0 ht (zgV zw_949 zw_950 zw_951 zw_7 zw_952) rfl rfl rfl kd_D_thrown ⟨Nat.le_of_ble_eq_true rfl, Nat.le_of_ble_eq_true rfl⟩) ⟨zw_blind zw_tt, va_recv (hK.sub (tys' := [(k2 21, .long), (k2 22, .int), (k2 23, .int), (k2 24, .int), (k2 25, .int), (k2 26, .int), (k2 27, .int), (k2 28, .int)]) [3, 4, 5, 6, 7, 8, 9, 10] rfl) (hP.sub (ws' := wD g2 k2 d2) [9, 10, 11, 12, 13, 14, 15, 16, 17] rfl) (ci := 6) (q0 := 0) rfl rfl, zw_go (hP.sub (ws' := wD g2 k2 d2) [9, 10, 11, 12, 13, 14, 15, 16, 17] rfl) (hD.sub (ws' := wD g2 k2 d2) [9, 10, 11, 12, 13, 14, 15, 16, 17] (by decide) rfl) (hK.sub (tys' := [(k2 21, .long), (k2 22, .int), (k2 23, .int), (k2 24, .int), (k2 25, .int), (k2 26, .int), (k2 27, .int), (k2 28, .int)]) [3, 4, 5, 6, 7, 8, 9, 10] rfl) (fun _ _ _ => trivial)⟩ rfl rfl hl.1 rfl (lv_room (Nat.le_of_ble_eq_true rfl)) d_law_771 ⟨hc, hs⟩) hP hD hS hA [9, 10, 11, 12, 13, 14, 15, 16, 17] [0, 1, 2, 3, 4, 5, 6, 7, 8, 18] [0, 1, 2, 3, 4, 5, 6, 7, 8, 10, 11, 12, 13, 14, 15, 16, 17, 18, 9] rfl rfl (by decide) (by decide) (by decide) (fun _ => rfl) (fun r2 _ H locs hw2 hP hD hS => ?_)
  have hP : va_P D vwCl (wZ g1 k1 g2 k2 o co u.1 d2 u.2) H := hP
  have hD : va_D (fun q : Nat => s.heap.size ≤ q) (wZ g1 k1 g2 k2 o co u.1 d2 u.2) := hD
  refine lv_iload hx hb d_law_774 (lv_at hl 1 rfl) ?_
  obtain ⟨f1, f2, hF⟩ := fa_end (mode_fa hRW (xs ((nI i) + (1 : Int32)).toNatClampNeg) (xs ((nI i) + (2 : Int32)).toNatClampNeg) (xs ((nI i) + (3 : Int32)).toNatClampNeg) (xs ((nI i) + (4 : Int32)).toNatClampNeg) (xs ((nI i) + (5 : Int32)).toNatClampNeg)) hw hw1 hw2
  refine lv_icmp_eq (tgt := 781) hx hb d_law_776 (by decide) (fun c9 => ?_) (fun c9 => absurd f1 c9)
  refine lv_iload hx hb d_law_781 (lv_at hl 1 rfl) ?_
  refine lv_if_ne (tgt := 798) hx hb d_law_783 (by decide) (fun _ => ?_) (fun c0 => ?_)
  · refine lv_goto (tgt := 801) hx hb d_law_798 (by decide) ?_
    exact kk _ _ _ _ _ _ hF hP hD hS (lv_sub hl [2, 3, 4, 5, 6] rfl)
  · refine lv_aload_n hx hb d_law_786 rfl (lv_at hl 5 rfl) ?_
    refine lv_iconst (v := (0 : Int32)) hx hb d_law_787 (by decide) ?_
    refine va_lald hx hb hK hP 18 11 rfl rfl (by unfold vp_in; decide) d_law_788 ?_
    refine lv_iload hx hb d_law_789 (lv_at hl 0 rfl) ?_
    refine lv_i2l (v := r1.toInt64) hx hb d_law_791 rfl ?_
    refine W.lcmp hx hb d_law_792 ?_
    refine lv_if_eq (tgt := 798) hx hb d_law_793 (by decide) (fun _ => ?_) (fun c9 => absurd (cmp_0 (f2 c0)) c9)
    refine lv_goto (tgt := 801) hx hb d_law_798 (by decide) ?_
    exact kk _ _ _ _ _ _ hF hP hD hS (lv_sub hl [2, 3, 4, 5, 6] rfl)
