set_option maxHeartbeats 4000000 in
set_option maxRecDepth 100000 in
theorem ch_D_init_9 {p : Program} {l : Launch} {e : Env} {R : Room} {s : State} {m : MethodId} {args : Array Value} {below : List Frame} {meth : Method} {c : Code} {H : Heap} {locs : List Loc} {cells slots : Nat} {Q : State → Prop} {ls : Array Slot} {D : va_G} {A : Nat → Prop} {fs : List Value} {x0 : Nat} {q : Nat} {cq : ClassId} {rest : List Value} (hx : p.tables.exec = Jvm.exec) (hb : c.code = c_D_init) (hown : s.vm.findClass "WindowMachineModel" = some m.cls) (ht : ∀ w9 ∈ zT, w9.before args s = true) (hK : va_K D vwCl [(cq, .long)] s) (hP : va_P D vwCl [(x0, .inr (6, fs)), (q, .inl (cq, 91, .inr (.inl (tbL nmL 0))))] H) (hD : va_D A [(x0, .inr (6, fs)), (q, .inl (cq, 91, .inr (.inl (tbL nmL 0))))]) (hS : va_S A s.heap H locs)
    (kk : ∀ (H : Heap) (locs : List Loc), va_P D vwCl [(x0, .inr (6, fs)), (q, .inl (cq, 91, .inr (.inl (tbL nmL 13))))] H → va_D A [(x0, .inr (6, fs)), (q, .inl (cq, 91, .inr (.inl (tbL nmL 13))))] → va_S A s.heap H locs → W p l e R s m args below meth c H locs cells slots Q (F0 m 94 ls (.ref q :: rest))) : W p l e R s m args below meth c H locs cells slots Q (F0 m 9 ls (.ref q :: rest)) := by
  refine lv_dup hx hb d_D_init_9 rfl ?_
  refine lv_iconst (v := (0 : Int32)) hx hb d_D_init_10 (by decide) ?_
  refine lv_ldc2 (v := (6579297 : Int64)) hx hb hown (ht _ zw_759) d_D_init_11 ?_
  refine va_last hx hb hK hP hD hS 1 0 rfl rfl (by unfold vp_in; decide) d_D_init_14 (fun H locs hP hD hS => ?_)
  have hP : va_P D vwCl ([(x0, .inr (6, fs)), (q, .inl (cq, 91, .inr (.inl (vp_updL (tbL nmL 0) (0 : Int32).toNatClampNeg (6579297 : Int64)))))]) H := hP
  have hD : va_D A ([(x0, .inr (6, fs)), (q, .inl (cq, 91, .inr (.inl (vp_updL (tbL nmL 0) (0 : Int32).toNatClampNeg (6579297 : Int64)))))]) := hD
  rw [tbL_s (L := nmL) (k := 0) (i := (0 : Int32)) (v := (6579297 : Int64)) rfl rfl] at hP hD
  refine lv_dup hx hb d_D_init_15 rfl ?_
  refine lv_iconst (v := (1 : Int32)) hx hb d_D_init_16 (by decide) ?_
  refine lv_ldc2 (v := (426869285985 : Int64)) hx hb hown (ht _ zw_760) d_D_init_17 ?_
  refine va_last hx hb hK hP hD hS 1 0 rfl rfl (by unfold vp_in; decide) d_D_init_20 (fun H locs hP hD hS => ?_)
  have hP : va_P D vwCl ([(x0, .inr (6, fs)), (q, .inl (cq, 91, .inr (.inl (vp_updL (tbL nmL 1) (1 : Int32).toNatClampNeg (426869285985 : Int64)))))]) H := hP
  have hD : va_D A ([(x0, .inr (6, fs)), (q, .inl (cq, 91, .inr (.inl (vp_updL (tbL nmL 1) (1 : Int32).toNatClampNeg (426869285985 : Int64)))))]) := hD
  rw [tbL_s (L := nmL) (k := 1) (i := (1 : Int32)) (v := (426869285985 : Int64)) rfl rfl] at hP hD
  refine lv_dup hx hb d_D_init_21 rfl ?_
  refine lv_iconst (v := (2 : Int32)) hx hb d_D_init_22 (by decide) ?_
  refine lv_ldc2 (v := (6581857 : Int64)) hx hb hown (ht _ zw_761) d_D_init_23 ?_
  refine va_last hx hb hK hP hD hS 1 0 rfl rfl (by unfold vp_in; decide) d_D_init_26 (fun H locs hP hD hS => ?_)
  have hP : va_P D vwCl ([(x0, .inr (6, fs)), (q, .inl (cq, 91, .inr (.inl (vp_updL (tbL nmL 2) (2 : Int32).toNatClampNeg (6581857 : Int64)))))]) H := hP
  have hD : va_D A ([(x0, .inr (6, fs)), (q, .inl (cq, 91, .inr (.inl (vp_updL (tbL nmL 2) (2 : Int32).toNatClampNeg (6581857 : Int64)))))]) := hD
  rw [tbL_s (L := nmL) (k := 2) (i := (2 : Int32)) (v := (6581857 : Int64)) rfl rfl] at hP hD
  refine lv_dup hx hb d_D_init_27 rfl ?_
  refine lv_iconst (v := (3 : Int32)) hx hb d_D_init_28 (by decide) ?_
  refine lv_ldc2 (v := (426869288545 : Int64)) hx hb hown (ht _ zw_762) d_D_init_29 ?_
  refine va_last hx hb hK hP hD hS 1 0 rfl rfl (by unfold vp_in; decide) d_D_init_32 (fun H locs hP hD hS => ?_)
  have hP : va_P D vwCl ([(x0, .inr (6, fs)), (q, .inl (cq, 91, .inr (.inl (vp_updL (tbL nmL 3) (3 : Int32).toNatClampNeg (426869288545 : Int64)))))]) H := hP
  have hD : va_D A ([(x0, .inr (6, fs)), (q, .inl (cq, 91, .inr (.inl (vp_updL (tbL nmL 3) (3 : Int32).toNatClampNeg (426869288545 : Int64)))))]) := hD
  rw [tbL_s (L := nmL) (k := 3) (i := (3 : Int32)) (v := (426869288545 : Int64)) rfl rfl] at hP hD
  refine lv_dup hx hb d_D_init_33 rfl ?_
  refine lv_iconst (v := (4 : Int32)) hx hb d_D_init_34 (by decide) ?_
  refine lv_ldc2 (v := (29295 : Int64)) hx hb hown (ht _ zw_763) d_D_init_35 ?_
  refine va_last hx hb hK hP hD hS 1 0 rfl rfl (by unfold vp_in; decide) d_D_init_38 (fun H locs hP hD hS => ?_)
  have hP : va_P D vwCl ([(x0, .inr (6, fs)), (q, .inl (cq, 91, .inr (.inl (vp_updL (tbL nmL 4) (4 : Int32).toNatClampNeg (29295 : Int64)))))]) H := hP
  have hD : va_D A ([(x0, .inr (6, fs)), (q, .inl (cq, 91, .inr (.inl (vp_updL (tbL nmL 4) (4 : Int32).toNatClampNeg (29295 : Int64)))))]) := hD
  rw [tbL_s (L := nmL) (k := 4) (i := (4 : Int32)) (v := (29295 : Int64)) rfl rfl] at hP hD
  refine lv_dup hx hb d_D_init_39 rfl ?_
  refine lv_iconst (v := (5 : Int32)) hx hb d_D_init_40 (by decide) ?_
  refine lv_ldc2 (v := (1667461743 : Int64)) hx hb hown (ht _ zw_764) d_D_init_41 ?_
  refine va_last hx hb hK hP hD hS 1 0 rfl rfl (by unfold vp_in; decide) d_D_init_44 (fun H locs hP hD hS => ?_)
  have hP : va_P D vwCl ([(x0, .inr (6, fs)), (q, .inl (cq, 91, .inr (.inl (vp_updL (tbL nmL 5) (5 : Int32).toNatClampNeg (1667461743 : Int64)))))]) H := hP
  have hD : va_D A ([(x0, .inr (6, fs)), (q, .inl (cq, 91, .inr (.inl (vp_updL (tbL nmL 5) (5 : Int32).toNatClampNeg (1667461743 : Int64)))))]) := hD
  rw [tbL_s (L := nmL) (k := 5) (i := (5 : Int32)) (v := (1667461743 : Int64)) rfl rfl] at hP hD
  refine lv_dup hx hb d_D_init_45 rfl ?_
  refine lv_bipush (v := (6 : Int32)) hx hb d_D_init_46 (by decide) ?_
  refine lv_ldc2 (v := (7499640 : Int64)) hx hb hown (ht _ zw_765) d_D_init_48 ?_
  refine va_last hx hb hK hP hD hS 1 0 rfl rfl (by unfold vp_in; decide) d_D_init_51 (fun H locs hP hD hS => ?_)
  have hP : va_P D vwCl ([(x0, .inr (6, fs)), (q, .inl (cq, 91, .inr (.inl (vp_updL (tbL nmL 6) (6 : Int32).toNatClampNeg (7499640 : Int64)))))]) H := hP
  have hD : va_D A ([(x0, .inr (6, fs)), (q, .inl (cq, 91, .inr (.inl (vp_updL (tbL nmL 6) (6 : Int32).toNatClampNeg (7499640 : Int64)))))]) := hD
  rw [tbL_s (L := nmL) (k := 6) (i := (6 : Int32)) (v := (7499640 : Int64)) rfl rfl] at hP hD
  refine lv_dup hx hb d_D_init_52 rfl ?_
  refine lv_bipush (v := (7 : Int32)) hx hb d_D_init_53 (by decide) ?_
  refine lv_ldc2 (v := (426870206328 : Int64)) hx hb hown (ht _ zw_766) d_D_init_55 ?_
  refine va_last hx hb hK hP hD hS 1 0 rfl rfl (by unfold vp_in; decide) d_D_init_58 (fun H locs hP hD hS => ?_)
  have hP : va_P D vwCl ([(x0, .inr (6, fs)), (q, .inl (cq, 91, .inr (.inl (vp_updL (tbL nmL 7) (7 : Int32).toNatClampNeg (426870206328 : Int64)))))]) H := hP
  have hD : va_D A ([(x0, .inr (6, fs)), (q, .inl (cq, 91, .inr (.inl (vp_updL (tbL nmL 7) (7 : Int32).toNatClampNeg (426870206328 : Int64)))))]) := hD
  rw [tbL_s (L := nmL) (k := 7) (i := (7 : Int32)) (v := (426870206328 : Int64)) rfl rfl] at hP hD
  refine lv_dup hx hb d_D_init_59 rfl ?_
  refine lv_bipush (v := (8 : Int32)) hx hb d_D_init_60 (by decide) ?_
  refine lv_ldc2 (v := (6452595 : Int64)) hx hb hown (ht _ zw_767) d_D_init_62 ?_
  refine va_last hx hb hK hP hD hS 1 0 rfl rfl (by unfold vp_in; decide) d_D_init_65 (fun H locs hP hD hS => ?_)
  have hP : va_P D vwCl ([(x0, .inr (6, fs)), (q, .inl (cq, 91, .inr (.inl (vp_updL (tbL nmL 8) (8 : Int32).toNatClampNeg (6452595 : Int64)))))]) H := hP
  have hD : va_D A ([(x0, .inr (6, fs)), (q, .inl (cq, 91, .inr (.inl (vp_updL (tbL nmL 8) (8 : Int32).toNatClampNeg (6452595 : Int64)))))]) := hD
  rw [tbL_s (L := nmL) (k := 8) (i := (8 : Int32)) (v := (6452595 : Int64)) rfl rfl] at hP hD
  refine lv_dup hx hb d_D_init_66 rfl ?_
  refine lv_bipush (v := (9 : Int32)) hx hb d_D_init_67 (by decide) ?_
  refine lv_ldc2 (v := (426869159283 : Int64)) hx hb hown (ht _ zw_768) d_D_init_69 ?_
  refine va_last hx hb hK hP hD hS 1 0 rfl rfl (by unfold vp_in; decide) d_D_init_72 (fun H locs hP hD hS => ?_)
  have hP : va_P D vwCl ([(x0, .inr (6, fs)), (q, .inl (cq, 91, .inr (.inl (vp_updL (tbL nmL 9) (9 : Int32).toNatClampNeg (426869159283 : Int64)))))]) H := hP
  have hD : va_D A ([(x0, .inr (6, fs)), (q, .inl (cq, 91, .inr (.inl (vp_updL (tbL nmL 9) (9 : Int32).toNatClampNeg (426869159283 : Int64)))))]) := hD
  rw [tbL_s (L := nmL) (k := 9) (i := (9 : Int32)) (v := (426869159283 : Int64)) rfl rfl] at hP hD
  refine lv_dup hx hb d_D_init_73 rfl ?_
  refine lv_bipush (v := (10 : Int32)) hx hb d_D_init_74 (by decide) ?_
  refine lv_ldc2 (v := (1852075617 : Int64)) hx hb hown (ht _ zw_769) d_D_init_76 ?_
  refine va_last hx hb hK hP hD hS 1 0 rfl rfl (by unfold vp_in; decide) d_D_init_79 (fun H locs hP hD hS => ?_)
  have hP : va_P D vwCl ([(x0, .inr (6, fs)), (q, .inl (cq, 91, .inr (.inl (vp_updL (tbL nmL 10) (10 : Int32).toNatClampNeg (1852075617 : Int64)))))]) H := hP
  have hD : va_D A ([(x0, .inr (6, fs)), (q, .inl (cq, 91, .inr (.inl (vp_updL (tbL nmL 10) (10 : Int32).toNatClampNeg (1852075617 : Int64)))))]) := hD
  rw [tbL_s (L := nmL) (k := 10) (i := (10 : Int32)) (v := (1852075617 : Int64)) rfl rfl] at hP hD
  refine lv_dup hx hb d_D_init_80 rfl ?_
  refine lv_bipush (v := (11 : Int32)) hx hb d_D_init_81 (by decide) ?_
  refine lv_ldc2 (v := (109278704987745 : Int64)) hx hb hown (ht _ zw_770) d_D_init_83 ?_
  refine va_last hx hb hK hP hD hS 1 0 rfl rfl (by unfold vp_in; decide) d_D_init_86 (fun H locs hP hD hS => ?_)
  have hP : va_P D vwCl ([(x0, .inr (6, fs)), (q, .inl (cq, 91, .inr (.inl (vp_updL (tbL nmL 11) (11 : Int32).toNatClampNeg (109278704987745 : Int64)))))]) H := hP
  have hD : va_D A ([(x0, .inr (6, fs)), (q, .inl (cq, 91, .inr (.inl (vp_updL (tbL nmL 11) (11 : Int32).toNatClampNeg (109278704987745 : Int64)))))]) := hD
  rw [tbL_s (L := nmL) (k := 11) (i := (11 : Int32)) (v := (109278704987745 : Int64)) rfl rfl] at hP hD
  refine lv_dup hx hb d_D_init_87 rfl ?_
  refine lv_bipush (v := (12 : Int32)) hx hb d_D_init_88 (by decide) ?_
  refine lv_ldc2 (v := (7238255 : Int64)) hx hb hown (ht _ zw_771) d_D_init_90 ?_
  refine va_last hx hb hK hP hD hS 1 0 rfl rfl (by unfold vp_in; decide) d_D_init_93 (fun H locs hP hD hS => ?_)
  have hP : va_P D vwCl ([(x0, .inr (6, fs)), (q, .inl (cq, 91, .inr (.inl (vp_updL (tbL nmL 12) (12 : Int32).toNatClampNeg (7238255 : Int64)))))]) H := hP
  have hD : va_D A ([(x0, .inr (6, fs)), (q, .inl (cq, 91, .inr (.inl (vp_updL (tbL nmL 12) (12 : Int32).toNatClampNeg (7238255 : Int64)))))]) := hD
  rw [tbL_s (L := nmL) (k := 12) (i := (12 : Int32)) (v := (7238255 : Int64)) rfl rfl] at hP hD
  exact kk H locs hP hD hS
set_option maxHeartbeats 4000000 in
set_option maxRecDepth 100000 in
theorem ch_D_init_94 {p : Program} {l : Launch} {e : Env} {R : Room} {s : State} {m : MethodId} {args : Array Value} {below : List Frame} {meth : Method} {c : Code} {H : Heap} {locs : List Loc} {cells slots : Nat} {Q : State → Prop} {ls : Array Slot} {D : va_G} {A : Nat → Prop} {fs : List Value} {x0 : Nat} {q : Nat} {cq : ClassId} {rest : List Value} (hx : p.tables.exec = Jvm.exec) (hb : c.code = c_D_init) (hown : s.vm.findClass "WindowMachineModel" = some m.cls) (ht : ∀ w9 ∈ zT, w9.before args s = true) (hK : va_K D vwCl [(cq, .long)] s) (hP : va_P D vwCl [(x0, .inr (6, fs)), (q, .inl (cq, 91, .inr (.inl (tbL nmL 13))))] H) (hD : va_D A [(x0, .inr (6, fs)), (q, .inl (cq, 91, .inr (.inl (tbL nmL 13))))]) (hS : va_S A s.heap H locs)
    (kk : ∀ (H : Heap) (locs : List Loc), va_P D vwCl [(x0, .inr (6, fs)), (q, .inl (cq, 91, .inr (.inl (tbL nmL 26))))] H → va_D A [(x0, .inr (6, fs)), (q, .inl (cq, 91, .inr (.inl (tbL nmL 26))))] → va_S A s.heap H locs → W p l e R s m args below meth c H locs cells slots Q (F0 m 185 ls (.ref q :: rest))) : W p l e R s m args below meth c H locs cells slots Q (F0 m 94 ls (.ref q :: rest)) := by
  refine lv_dup hx hb d_D_init_94 rfl ?_
  refine lv_bipush (v := (13 : Int32)) hx hb d_D_init_95 (by decide) ?_
  refine lv_ldc2 (v := (426869944943 : Int64)) hx hb hown (ht _ zw_772) d_D_init_97 ?_
  refine va_last hx hb hK hP hD hS 1 0 rfl rfl (by unfold vp_in; decide) d_D_init_100 (fun H locs hP hD hS => ?_)
  have hP : va_P D vwCl ([(x0, .inr (6, fs)), (q, .inl (cq, 91, .inr (.inl (vp_updL (tbL nmL 13) (13 : Int32).toNatClampNeg (426869944943 : Int64)))))]) H := hP
  have hD : va_D A ([(x0, .inr (6, fs)), (q, .inl (cq, 91, .inr (.inl (vp_updL (tbL nmL 13) (13 : Int32).toNatClampNeg (426869944943 : Int64)))))]) := hD
  rw [tbL_s (L := nmL) (k := 13) (i := (13 : Int32)) (v := (426869944943 : Int64)) rfl rfl] at hP hD
  refine lv_dup hx hb d_D_init_101 rfl ?_
  refine lv_bipush (v := (14 : Int32)) hx hb d_D_init_102 (by decide) ?_
  refine lv_ldc2 (v := (1919905400 : Int64)) hx hb hown (ht _ zw_773) d_D_init_104 ?_
  refine va_last hx hb hK hP hD hS 1 0 rfl rfl (by unfold vp_in; decide) d_D_init_107 (fun H locs hP hD hS => ?_)
  have hP : va_P D vwCl ([(x0, .inr (6, fs)), (q, .inl (cq, 91, .inr (.inl (vp_updL (tbL nmL 14) (14 : Int32).toNatClampNeg (1919905400 : Int64)))))]) H := hP
  have hD : va_D A ([(x0, .inr (6, fs)), (q, .inl (cq, 91, .inr (.inl (vp_updL (tbL nmL 14) (14 : Int32).toNatClampNeg (1919905400 : Int64)))))]) := hD
  rw [tbL_s (L := nmL) (k := 14) (i := (14 : Int32)) (v := (1919905400 : Int64)) rfl rfl] at hP hD
  refine lv_dup hx hb d_D_init_108 rfl ?_
  refine lv_bipush (v := (15 : Int32)) hx hb d_D_init_109 (by decide) ?_
  refine lv_ldc2 (v := (109278772817528 : Int64)) hx hb hown (ht _ zw_774) d_D_init_111 ?_
  refine va_last hx hb hK hP hD hS 1 0 rfl rfl (by unfold vp_in; decide) d_D_init_114 (fun H locs hP hD hS => ?_)
  have hP : va_P D vwCl ([(x0, .inr (6, fs)), (q, .inl (cq, 91, .inr (.inl (vp_updL (tbL nmL 15) (15 : Int32).toNatClampNeg (109278772817528 : Int64)))))]) H := hP
  have hD : va_D A ([(x0, .inr (6, fs)), (q, .inl (cq, 91, .inr (.inl (vp_updL (tbL nmL 15) (15 : Int32).toNatClampNeg (109278772817528 : Int64)))))]) := hD
  rw [tbL_s (L := nmL) (k := 15) (i := (15 : Int32)) (v := (109278772817528 : Int64)) rfl rfl] at hP hD
  refine lv_dup hx hb d_D_init_115 rfl ?_
  refine lv_bipush (v := (16 : Int32)) hx hb d_D_init_116 (by decide) ?_
  refine lv_ldc2 (v := (2019845217 : Int64)) hx hb hown (ht _ zw_775) d_D_init_118 ?_
  refine va_last hx hb hK hP hD hS 1 0 rfl rfl (by unfold vp_in; decide) d_D_init_121 (fun H locs hP hD hS => ?_)
  have hP : va_P D vwCl ([(x0, .inr (6, fs)), (q, .inl (cq, 91, .inr (.inl (vp_updL (tbL nmL 16) (16 : Int32).toNatClampNeg (2019845217 : Int64)))))]) H := hP
  have hD : va_D A ([(x0, .inr (6, fs)), (q, .inl (cq, 91, .inr (.inl (vp_updL (tbL nmL 16) (16 : Int32).toNatClampNeg (2019845217 : Int64)))))]) := hD
  rw [tbL_s (L := nmL) (k := 16) (i := (16 : Int32)) (v := (2019845217 : Int64)) rfl rfl] at hP hD
  refine lv_dup hx hb d_D_init_122 rfl ?_
  refine lv_bipush (v := (17 : Int32)) hx hb d_D_init_123 (by decide) ?_
  refine lv_ldc2 (v := (109278872757345 : Int64)) hx hb hown (ht _ zw_776) d_D_init_125 ?_
  refine va_last hx hb hK hP hD hS 1 0 rfl rfl (by unfold vp_in; decide) d_D_init_128 (fun H locs hP hD hS => ?_)
  have hP : va_P D vwCl ([(x0, .inr (6, fs)), (q, .inl (cq, 91, .inr (.inl (vp_updL (tbL nmL 17) (17 : Int32).toNatClampNeg (109278872757345 : Int64)))))]) H := hP
  have hD : va_D A ([(x0, .inr (6, fs)), (q, .inl (cq, 91, .inr (.inl (vp_updL (tbL nmL 17) (17 : Int32).toNatClampNeg (109278872757345 : Int64)))))]) := hD
  rw [tbL_s (L := nmL) (k := 17) (i := (17 : Int32)) (v := (109278872757345 : Int64)) rfl rfl] at hP hD
  refine lv_dup hx hb d_D_init_129 rfl ?_
  refine lv_bipush (v := (18 : Int32)) hx hb d_D_init_130 (by decide) ?_
  refine lv_ldc2 (v := (2019718515 : Int64)) hx hb hown (ht _ zw_777) d_D_init_132 ?_
  refine va_last hx hb hK hP hD hS 1 0 rfl rfl (by unfold vp_in; decide) d_D_init_135 (fun H locs hP hD hS => ?_)
  have hP : va_P D vwCl ([(x0, .inr (6, fs)), (q, .inl (cq, 91, .inr (.inl (vp_updL (tbL nmL 18) (18 : Int32).toNatClampNeg (2019718515 : Int64)))))]) H := hP
  have hD : va_D A ([(x0, .inr (6, fs)), (q, .inl (cq, 91, .inr (.inl (vp_updL (tbL nmL 18) (18 : Int32).toNatClampNeg (2019718515 : Int64)))))]) := hD
  rw [tbL_s (L := nmL) (k := 18) (i := (18 : Int32)) (v := (2019718515 : Int64)) rfl rfl] at hP hD
  refine lv_dup hx hb d_D_init_136 rfl ?_
  refine lv_bipush (v := (19 : Int32)) hx hb d_D_init_137 (by decide) ?_
  refine lv_ldc2 (v := (109278872630643 : Int64)) hx hb hown (ht _ zw_778) d_D_init_139 ?_
  refine va_last hx hb hK hP hD hS 1 0 rfl rfl (by unfold vp_in; decide) d_D_init_142 (fun H locs hP hD hS => ?_)
  have hP : va_P D vwCl ([(x0, .inr (6, fs)), (q, .inl (cq, 91, .inr (.inl (vp_updL (tbL nmL 19) (19 : Int32).toNatClampNeg (109278872630643 : Int64)))))]) H := hP
  have hD : va_D A ([(x0, .inr (6, fs)), (q, .inl (cq, 91, .inr (.inl (vp_updL (tbL nmL 19) (19 : Int32).toNatClampNeg (109278872630643 : Int64)))))]) := hD
  rw [tbL_s (L := nmL) (k := 19) (i := (19 : Int32)) (v := (109278872630643 : Int64)) rfl rfl] at hP hD
  refine lv_dup hx hb d_D_init_143 rfl ?_
  refine lv_bipush (v := (20 : Int32)) hx hb d_D_init_144 (by decide) ?_
  refine lv_ldc2 (v := (1819635061 : Int64)) hx hb hown (ht _ zw_779) d_D_init_146 ?_
  refine va_last hx hb hK hP hD hS 1 0 rfl rfl (by unfold vp_in; decide) d_D_init_149 (fun H locs hP hD hS => ?_)
  have hP : va_P D vwCl ([(x0, .inr (6, fs)), (q, .inl (cq, 91, .inr (.inl (vp_updL (tbL nmL 20) (20 : Int32).toNatClampNeg (1819635061 : Int64)))))]) H := hP
  have hD : va_D A ([(x0, .inr (6, fs)), (q, .inl (cq, 91, .inr (.inl (vp_updL (tbL nmL 20) (20 : Int32).toNatClampNeg (1819635061 : Int64)))))]) := hD
  rw [tbL_s (L := nmL) (k := 20) (i := (20 : Int32)) (v := (1819635061 : Int64)) rfl rfl] at hP hD
  refine lv_dup hx hb d_D_init_150 rfl ?_
  refine lv_bipush (v := (21 : Int32)) hx hb d_D_init_151 (by decide) ?_
  refine lv_ldc2 (v := (109278672547189 : Int64)) hx hb hown (ht _ zw_780) d_D_init_153 ?_
  refine va_last hx hb hK hP hD hS 1 0 rfl rfl (by unfold vp_in; decide) d_D_init_156 (fun H locs hP hD hS => ?_)
  have hP : va_P D vwCl ([(x0, .inr (6, fs)), (q, .inl (cq, 91, .inr (.inl (vp_updL (tbL nmL 21) (21 : Int32).toNatClampNeg (109278672547189 : Int64)))))]) H := hP
  have hD : va_D A ([(x0, .inr (6, fs)), (q, .inl (cq, 91, .inr (.inl (vp_updL (tbL nmL 21) (21 : Int32).toNatClampNeg (109278672547189 : Int64)))))]) := hD
  rw [tbL_s (L := nmL) (k := 21) (i := (21 : Int32)) (v := (109278672547189 : Int64)) rfl rfl] at hP hD
  refine lv_dup hx hb d_D_init_157 rfl ?_
  refine lv_bipush (v := (22 : Int32)) hx hb d_D_init_158 (by decide) ?_
  refine lv_ldc2 (v := (1819635059 : Int64)) hx hb hown (ht _ zw_781) d_D_init_160 ?_
  refine va_last hx hb hK hP hD hS 1 0 rfl rfl (by unfold vp_in; decide) d_D_init_163 (fun H locs hP hD hS => ?_)
  have hP : va_P D vwCl ([(x0, .inr (6, fs)), (q, .inl (cq, 91, .inr (.inl (vp_updL (tbL nmL 22) (22 : Int32).toNatClampNeg (1819635059 : Int64)))))]) H := hP
  have hD : va_D A ([(x0, .inr (6, fs)), (q, .inl (cq, 91, .inr (.inl (vp_updL (tbL nmL 22) (22 : Int32).toNatClampNeg (1819635059 : Int64)))))]) := hD
  rw [tbL_s (L := nmL) (k := 22) (i := (22 : Int32)) (v := (1819635059 : Int64)) rfl rfl] at hP hD
  refine lv_dup hx hb d_D_init_164 rfl ?_
  refine lv_bipush (v := (23 : Int32)) hx hb d_D_init_165 (by decide) ?_
  refine lv_ldc2 (v := (109278672547187 : Int64)) hx hb hown (ht _ zw_782) d_D_init_167 ?_
  refine va_last hx hb hK hP hD hS 1 0 rfl rfl (by unfold vp_in; decide) d_D_init_170 (fun H locs hP hD hS => ?_)
  have hP : va_P D vwCl ([(x0, .inr (6, fs)), (q, .inl (cq, 91, .inr (.inl (vp_updL (tbL nmL 23) (23 : Int32).toNatClampNeg (109278672547187 : Int64)))))]) H := hP
  have hD : va_D A ([(x0, .inr (6, fs)), (q, .inl (cq, 91, .inr (.inl (vp_updL (tbL nmL 23) (23 : Int32).toNatClampNeg (109278672547187 : Int64)))))]) := hD
  rw [tbL_s (L := nmL) (k := 23) (i := (23 : Int32)) (v := (109278672547187 : Int64)) rfl rfl] at hP hD
  refine lv_dup hx hb d_D_init_171 rfl ?_
  refine lv_bipush (v := (24 : Int32)) hx hb d_D_init_172 (by decide) ?_
  refine lv_ldc2 (v := (1986618485 : Int64)) hx hb hown (ht _ zw_783) d_D_init_174 ?_
  refine va_last hx hb hK hP hD hS 1 0 rfl rfl (by unfold vp_in; decide) d_D_init_177 (fun H locs hP hD hS => ?_)
  have hP : va_P D vwCl ([(x0, .inr (6, fs)), (q, .inl (cq, 91, .inr (.inl (vp_updL (tbL nmL 24) (24 : Int32).toNatClampNeg (1986618485 : Int64)))))]) H := hP
  have hD : va_D A ([(x0, .inr (6, fs)), (q, .inl (cq, 91, .inr (.inl (vp_updL (tbL nmL 24) (24 : Int32).toNatClampNeg (1986618485 : Int64)))))]) := hD
  rw [tbL_s (L := nmL) (k := 24) (i := (24 : Int32)) (v := (1986618485 : Int64)) rfl rfl] at hP hD
  refine lv_dup hx hb d_D_init_178 rfl ?_
  refine lv_bipush (v := (25 : Int32)) hx hb d_D_init_179 (by decide) ?_
  refine lv_ldc2 (v := (109278839530613 : Int64)) hx hb hown (ht _ zw_784) d_D_init_181 ?_
  refine va_last hx hb hK hP hD hS 1 0 rfl rfl (by unfold vp_in; decide) d_D_init_184 (fun H locs hP hD hS => ?_)
  have hP : va_P D vwCl ([(x0, .inr (6, fs)), (q, .inl (cq, 91, .inr (.inl (vp_updL (tbL nmL 25) (25 : Int32).toNatClampNeg (109278839530613 : Int64)))))]) H := hP
  have hD : va_D A ([(x0, .inr (6, fs)), (q, .inl (cq, 91, .inr (.inl (vp_updL (tbL nmL 25) (25 : Int32).toNatClampNeg (109278839530613 : Int64)))))]) := hD
  rw [tbL_s (L := nmL) (k := 25) (i := (25 : Int32)) (v := (109278839530613 : Int64)) rfl rfl] at hP hD
  exact kk H locs hP hD hS
set_option maxHeartbeats 4000000 in
set_option maxRecDepth 100000 in
theorem ch_D_init_185 {p : Program} {l : Launch} {e : Env} {R : Room} {s : State} {m : MethodId} {args : Array Value} {below : List Frame} {meth : Method} {c : Code} {H : Heap} {locs : List Loc} {cells slots : Nat} {Q : State → Prop} {ls : Array Slot} {D : va_G} {A : Nat → Prop} {fs : List Value} {x0 : Nat} {q : Nat} {cq : ClassId} {rest : List Value} (hx : p.tables.exec = Jvm.exec) (hb : c.code = c_D_init) (hown : s.vm.findClass "WindowMachineModel" = some m.cls) (ht : ∀ w9 ∈ zT, w9.before args s = true) (hK : va_K D vwCl [(cq, .long)] s) (hP : va_P D vwCl [(x0, .inr (6, fs)), (q, .inl (cq, 91, .inr (.inl (tbL nmL 26))))] H) (hD : va_D A [(x0, .inr (6, fs)), (q, .inl (cq, 91, .inr (.inl (tbL nmL 26))))]) (hS : va_S A s.heap H locs)
    (kk : ∀ (H : Heap) (locs : List Loc), va_P D vwCl [(x0, .inr (6, fs)), (q, .inl (cq, 91, .inr (.inl (tbL nmL 39))))] H → va_D A [(x0, .inr (6, fs)), (q, .inl (cq, 91, .inr (.inl (tbL nmL 39))))] → va_S A s.heap H locs → W p l e R s m args below meth c H locs cells slots Q (F0 m 276 ls (.ref q :: rest))) : W p l e R s m args below meth c H locs cells slots Q (F0 m 185 ls (.ref q :: rest)) := by
  refine lv_dup hx hb d_D_init_185 rfl ?_
  refine lv_bipush (v := (26 : Int32)) hx hb d_D_init_186 (by decide) ?_
  refine lv_ldc2 (v := (1986618483 : Int64)) hx hb hown (ht _ zw_785) d_D_init_188 ?_
  refine va_last hx hb hK hP hD hS 1 0 rfl rfl (by unfold vp_in; decide) d_D_init_191 (fun H locs hP hD hS => ?_)
  have hP : va_P D vwCl ([(x0, .inr (6, fs)), (q, .inl (cq, 91, .inr (.inl (vp_updL (tbL nmL 26) (26 : Int32).toNatClampNeg (1986618483 : Int64)))))]) H := hP
  have hD : va_D A ([(x0, .inr (6, fs)), (q, .inl (cq, 91, .inr (.inl (vp_updL (tbL nmL 26) (26 : Int32).toNatClampNeg (1986618483 : Int64)))))]) := hD
  rw [tbL_s (L := nmL) (k := 26) (i := (26 : Int32)) (v := (1986618483 : Int64)) rfl rfl] at hP hD
  refine lv_dup hx hb d_D_init_192 rfl ?_
  refine lv_bipush (v := (27 : Int32)) hx hb d_D_init_193 (by decide) ?_
  refine lv_ldc2 (v := (109278839530611 : Int64)) hx hb hown (ht _ zw_786) d_D_init_195 ?_
  refine va_last hx hb hK hP hD hS 1 0 rfl rfl (by unfold vp_in; decide) d_D_init_198 (fun H locs hP hD hS => ?_)
  have hP : va_P D vwCl ([(x0, .inr (6, fs)), (q, .inl (cq, 91, .inr (.inl (vp_updL (tbL nmL 27) (27 : Int32).toNatClampNeg (109278839530611 : Int64)))))]) H := hP
  have hD : va_D A ([(x0, .inr (6, fs)), (q, .inl (cq, 91, .inr (.inl (vp_updL (tbL nmL 27) (27 : Int32).toNatClampNeg (109278839530611 : Int64)))))]) := hD
  rw [tbL_s (L := nmL) (k := 27) (i := (27 : Int32)) (v := (109278839530611 : Int64)) rfl rfl] at hP hD
  refine lv_dup hx hb d_D_init_199 rfl ?_
  refine lv_bipush (v := (28 : Int32)) hx hb d_D_init_200 (by decide) ?_
  refine lv_ldc2 (v := (109278789399917 : Int64)) hx hb hown (ht _ zw_787) d_D_init_202 ?_
  refine va_last hx hb hK hP hD hS 1 0 rfl rfl (by unfold vp_in; decide) d_D_init_205 (fun H locs hP hD hS => ?_)
  have hP : va_P D vwCl ([(x0, .inr (6, fs)), (q, .inl (cq, 91, .inr (.inl (vp_updL (tbL nmL 28) (28 : Int32).toNatClampNeg (109278789399917 : Int64)))))]) H := hP
  have hD : va_D A ([(x0, .inr (6, fs)), (q, .inl (cq, 91, .inr (.inl (vp_updL (tbL nmL 28) (28 : Int32).toNatClampNeg (109278789399917 : Int64)))))]) := hD
  rw [tbL_s (L := nmL) (k := 28) (i := (28 : Int32)) (v := (109278789399917 : Int64)) rfl rfl] at hP hD
  refine lv_dup hx hb d_D_init_206 rfl ?_
  refine lv_bipush (v := (29 : Int32)) hx hb d_D_init_207 (by decide) ?_
  refine lv_ldc2 (v := (7105651 : Int64)) hx hb hown (ht _ zw_788) d_D_init_209 ?_
  refine va_last hx hb hK hP hD hS 1 0 rfl rfl (by unfold vp_in; decide) d_D_init_212 (fun H locs hP hD hS => ?_)
  have hP : va_P D vwCl ([(x0, .inr (6, fs)), (q, .inl (cq, 91, .inr (.inl (vp_updL (tbL nmL 29) (29 : Int32).toNatClampNeg (7105651 : Int64)))))]) H := hP
  have hD : va_D A ([(x0, .inr (6, fs)), (q, .inl (cq, 91, .inr (.inl (vp_updL (tbL nmL 29) (29 : Int32).toNatClampNeg (7105651 : Int64)))))]) := hD
  rw [tbL_s (L := nmL) (k := 29) (i := (29 : Int32)) (v := (7105651 : Int64)) rfl rfl] at hP hD
  refine lv_dup hx hb d_D_init_213 rfl ?_
  refine lv_bipush (v := (30 : Int32)) hx hb d_D_init_214 (by decide) ?_
  refine lv_ldc2 (v := (7107187 : Int64)) hx hb hown (ht _ zw_789) d_D_init_216 ?_
  refine va_last hx hb hK hP hD hS 1 0 rfl rfl (by unfold vp_in; decide) d_D_init_219 (fun H locs hP hD hS => ?_)
  have hP : va_P D vwCl ([(x0, .inr (6, fs)), (q, .inl (cq, 91, .inr (.inl (vp_updL (tbL nmL 30) (30 : Int32).toNatClampNeg (7107187 : Int64)))))]) H := hP
  have hD : va_D A ([(x0, .inr (6, fs)), (q, .inl (cq, 91, .inr (.inl (vp_updL (tbL nmL 30) (30 : Int32).toNatClampNeg (7107187 : Int64)))))]) := hD
  rw [tbL_s (L := nmL) (k := 30) (i := (30 : Int32)) (v := (7107187 : Int64)) rfl rfl] at hP hD
  refine lv_dup hx hb d_D_init_220 rfl ?_
  refine lv_bipush (v := (31 : Int32)) hx hb d_D_init_221 (by decide) ?_
  refine lv_ldc2 (v := (6386291 : Int64)) hx hb hown (ht _ zw_790) d_D_init_223 ?_
  refine va_last hx hb hK hP hD hS 1 0 rfl rfl (by unfold vp_in; decide) d_D_init_226 (fun H locs hP hD hS => ?_)
  have hP : va_P D vwCl ([(x0, .inr (6, fs)), (q, .inl (cq, 91, .inr (.inl (vp_updL (tbL nmL 31) (31 : Int32).toNatClampNeg (6386291 : Int64)))))]) H := hP
  have hD : va_D A ([(x0, .inr (6, fs)), (q, .inl (cq, 91, .inr (.inl (vp_updL (tbL nmL 31) (31 : Int32).toNatClampNeg (6386291 : Int64)))))]) := hD
  rw [tbL_s (L := nmL) (k := 31) (i := (31 : Int32)) (v := (6386291 : Int64)) rfl rfl] at hP hD
  refine lv_dup hx hb d_D_init_227 rfl ?_
  refine lv_bipush (v := (32 : Int32)) hx hb d_D_init_228 (by decide) ?_
  refine lv_ldc2 (v := (1819307370 : Int64)) hx hb hown (ht _ zw_791) d_D_init_230 ?_
  refine va_last hx hb hK hP hD hS 1 0 rfl rfl (by unfold vp_in; decide) d_D_init_233 (fun H locs hP hD hS => ?_)
  have hP : va_P D vwCl ([(x0, .inr (6, fs)), (q, .inl (cq, 91, .inr (.inl (vp_updL (tbL nmL 32) (32 : Int32).toNatClampNeg (1819307370 : Int64)))))]) H := hP
  have hD : va_D A ([(x0, .inr (6, fs)), (q, .inl (cq, 91, .inr (.inl (vp_updL (tbL nmL 32) (32 : Int32).toNatClampNeg (1819307370 : Int64)))))]) := hD
  rw [tbL_s (L := nmL) (k := 32) (i := (32 : Int32)) (v := (1819307370 : Int64)) rfl rfl] at hP hD
  refine lv_dup hx hb d_D_init_234 rfl ?_
  refine lv_bipush (v := (33 : Int32)) hx hb d_D_init_235 (by decide) ?_
  refine lv_ldc2 (v := (1702257011 : Int64)) hx hb hown (ht _ zw_792) d_D_init_237 ?_
  refine va_last hx hb hK hP hD hS 1 0 rfl rfl (by unfold vp_in; decide) d_D_init_240 (fun H locs hP hD hS => ?_)
  have hP : va_P D vwCl ([(x0, .inr (6, fs)), (q, .inl (cq, 91, .inr (.inl (vp_updL (tbL nmL 33) (33 : Int32).toNatClampNeg (1702257011 : Int64)))))]) H := hP
  have hD : va_D A ([(x0, .inr (6, fs)), (q, .inl (cq, 91, .inr (.inl (vp_updL (tbL nmL 33) (33 : Int32).toNatClampNeg (1702257011 : Int64)))))]) := hD
  rw [tbL_s (L := nmL) (k := 33) (i := (33 : Int32)) (v := (1702257011 : Int64)) rfl rfl] at hP hD
  refine lv_dup hx hb d_D_init_241 rfl ?_
  refine lv_bipush (v := (34 : Int32)) hx hb d_D_init_242 (by decide) ?_
  refine lv_ldc2 (v := (28554795668432242 : Int64)) hx hb hown (ht _ zw_793) d_D_init_244 ?_
  refine va_last hx hb hK hP hD hS 1 0 rfl rfl (by unfold vp_in; decide) d_D_init_247 (fun H locs hP hD hS => ?_)
  have hP : va_P D vwCl ([(x0, .inr (6, fs)), (q, .inl (cq, 91, .inr (.inl (vp_updL (tbL nmL 34) (34 : Int32).toNatClampNeg (28554795668432242 : Int64)))))]) H := hP
  have hD : va_D A ([(x0, .inr (6, fs)), (q, .inl (cq, 91, .inr (.inl (vp_updL (tbL nmL 34) (34 : Int32).toNatClampNeg (28554795668432242 : Int64)))))]) := hD
  rw [tbL_s (L := nmL) (k := 34) (i := (34 : Int32)) (v := (28554795668432242 : Int64)) rfl rfl] at hP hD
  refine lv_dup hx hb d_D_init_248 rfl ?_
  refine lv_bipush (v := (35 : Int32)) hx hb d_D_init_249 (by decide) ?_
  refine lv_ldc2 (v := (452724024691 : Int64)) hx hb hown (ht _ zw_794) d_D_init_251 ?_
  refine va_last hx hb hK hP hD hS 1 0 rfl rfl (by unfold vp_in; decide) d_D_init_254 (fun H locs hP hD hS => ?_)
  have hP : va_P D vwCl ([(x0, .inr (6, fs)), (q, .inl (cq, 91, .inr (.inl (vp_updL (tbL nmL 35) (35 : Int32).toNatClampNeg (452724024691 : Int64)))))]) H := hP
  have hD : va_D A ([(x0, .inr (6, fs)), (q, .inl (cq, 91, .inr (.inl (vp_updL (tbL nmL 35) (35 : Int32).toNatClampNeg (452724024691 : Int64)))))]) := hD
  rw [tbL_s (L := nmL) (k := 35) (i := (35 : Int32)) (v := (452724024691 : Int64)) rfl rfl] at hP hD
  refine lv_dup hx hb d_D_init_255 rfl ?_
  refine lv_bipush (v := (36 : Int32)) hx hb d_D_init_256 (by decide) ?_
  refine lv_ldc2 (v := (7955570 : Int64)) hx hb hown (ht _ zw_795) d_D_init_258 ?_
  refine va_last hx hb hK hP hD hS 1 0 rfl rfl (by unfold vp_in; decide) d_D_init_261 (fun H locs hP hD hS => ?_)
  have hP : va_P D vwCl ([(x0, .inr (6, fs)), (q, .inl (cq, 91, .inr (.inl (vp_updL (tbL nmL 36) (36 : Int32).toNatClampNeg (7955570 : Int64)))))]) H := hP
  have hD : va_D A ([(x0, .inr (6, fs)), (q, .inl (cq, 91, .inr (.inl (vp_updL (tbL nmL 36) (36 : Int32).toNatClampNeg (7955570 : Int64)))))]) := hD
  rw [tbL_s (L := nmL) (k := 36) (i := (36 : Int32)) (v := (7955570 : Int64)) rfl rfl] at hP hD
  refine lv_dup hx hb d_D_init_262 rfl ?_
  refine lv_bipush (v := (37 : Int32)) hx hb d_D_init_263 (by decide) ?_
  refine lv_ldc2 (v := (491563017330 : Int64)) hx hb hown (ht _ zw_796) d_D_init_265 ?_
  refine va_last hx hb hK hP hD hS 1 0 rfl rfl (by unfold vp_in; decide) d_D_init_268 (fun H locs hP hD hS => ?_)
  have hP : va_P D vwCl ([(x0, .inr (6, fs)), (q, .inl (cq, 91, .inr (.inl (vp_updL (tbL nmL 37) (37 : Int32).toNatClampNeg (491563017330 : Int64)))))]) H := hP
  have hD : va_D A ([(x0, .inr (6, fs)), (q, .inl (cq, 91, .inr (.inl (vp_updL (tbL nmL 37) (37 : Int32).toNatClampNeg (491563017330 : Int64)))))]) := hD
  rw [tbL_s (L := nmL) (k := 37) (i := (37 : Int32)) (v := (491563017330 : Int64)) rfl rfl] at hP hD
  refine lv_dup hx hb d_D_init_269 rfl ?_
  refine lv_bipush (v := (38 : Int32)) hx hb d_D_init_270 (by decide) ?_
  refine lv_ldc2 (v := (469920867442 : Int64)) hx hb hown (ht _ zw_797) d_D_init_272 ?_
  refine va_last hx hb hK hP hD hS 1 0 rfl rfl (by unfold vp_in; decide) d_D_init_275 (fun H locs hP hD hS => ?_)
  have hP : va_P D vwCl ([(x0, .inr (6, fs)), (q, .inl (cq, 91, .inr (.inl (vp_updL (tbL nmL 38) (38 : Int32).toNatClampNeg (469920867442 : Int64)))))]) H := hP
  have hD : va_D A ([(x0, .inr (6, fs)), (q, .inl (cq, 91, .inr (.inl (vp_updL (tbL nmL 38) (38 : Int32).toNatClampNeg (469920867442 : Int64)))))]) := hD
  rw [tbL_s (L := nmL) (k := 38) (i := (38 : Int32)) (v := (469920867442 : Int64)) rfl rfl] at hP hD
  exact kk H locs hP hD hS
set_option maxHeartbeats 4000000 in
set_option maxRecDepth 100000 in
theorem ch_D_init_276 {p : Program} {l : Launch} {e : Env} {R : Room} {s : State} {m : MethodId} {args : Array Value} {below : List Frame} {meth : Method} {c : Code} {H : Heap} {locs : List Loc} {cells slots : Nat} {Q : State → Prop} {ls : Array Slot} {D : va_G} {A : Nat → Prop} {fs : List Value} {x0 : Nat} {q : Nat} {cq : ClassId} {rest : List Value} (hx : p.tables.exec = Jvm.exec) (hb : c.code = c_D_init) (hown : s.vm.findClass "WindowMachineModel" = some m.cls) (ht : ∀ w9 ∈ zT, w9.before args s = true) (hK : va_K D vwCl [(cq, .long)] s) (hP : va_P D vwCl [(x0, .inr (6, fs)), (q, .inl (cq, 91, .inr (.inl (tbL nmL 39))))] H) (hD : va_D A [(x0, .inr (6, fs)), (q, .inl (cq, 91, .inr (.inl (tbL nmL 39))))]) (hS : va_S A s.heap H locs)
    (kk : ∀ (H : Heap) (locs : List Loc), va_P D vwCl [(x0, .inr (6, fs)), (q, .inl (cq, 91, .inr (.inl (tbL nmL 52))))] H → va_D A [(x0, .inr (6, fs)), (q, .inl (cq, 91, .inr (.inl (tbL nmL 52))))] → va_S A s.heap H locs → W p l e R s m args below meth c H locs cells slots Q (F0 m 367 ls (.ref q :: rest))) : W p l e R s m args below meth c H locs cells slots Q (F0 m 276 ls (.ref q :: rest)) := by
  refine lv_dup hx hb d_D_init_276 rfl ?_
  refine lv_bipush (v := (39 : Int32)) hx hb d_D_init_277 (by decide) ?_
  refine lv_ldc2 (v := (491278066802 : Int64)) hx hb hown (ht _ zw_798) d_D_init_279 ?_
  refine va_last hx hb hK hP hD hS 1 0 rfl rfl (by unfold vp_in; decide) d_D_init_282 (fun H locs hP hD hS => ?_)
  have hP : va_P D vwCl ([(x0, .inr (6, fs)), (q, .inl (cq, 91, .inr (.inl (vp_updL (tbL nmL 39) (39 : Int32).toNatClampNeg (491278066802 : Int64)))))]) H := hP
  have hD : va_D A ([(x0, .inr (6, fs)), (q, .inl (cq, 91, .inr (.inl (vp_updL (tbL nmL 39) (39 : Int32).toNatClampNeg (491278066802 : Int64)))))]) := hD
  rw [tbL_s (L := nmL) (k := 39) (i := (39 : Int32)) (v := (491278066802 : Int64)) rfl rfl] at hP hD
  refine lv_dup hx hb d_D_init_283 rfl ?_
  refine lv_bipush (v := (40 : Int32)) hx hb d_D_init_284 (by decide) ?_
  refine lv_ldc2 (v := (7959159 : Int64)) hx hb hown (ht _ zw_799) d_D_init_286 ?_
  refine va_last hx hb hK hP hD hS 1 0 rfl rfl (by unfold vp_in; decide) d_D_init_289 (fun H locs hP hD hS => ?_)
  have hP : va_P D vwCl ([(x0, .inr (6, fs)), (q, .inl (cq, 91, .inr (.inl (vp_updL (tbL nmL 40) (40 : Int32).toNatClampNeg (7959159 : Int64)))))]) H := hP
  have hD : va_D A ([(x0, .inr (6, fs)), (q, .inl (cq, 91, .inr (.inl (vp_updL (tbL nmL 40) (40 : Int32).toNatClampNeg (7959159 : Int64)))))]) := hD
  rw [tbL_s (L := nmL) (k := 40) (i := (40 : Int32)) (v := (7959159 : Int64)) rfl rfl] at hP hD
  refine lv_dup hx hb d_D_init_290 rfl ?_
  refine lv_bipush (v := (41 : Int32)) hx hb d_D_init_291 (by decide) ?_
  refine lv_ldc2 (v := (491563020919 : Int64)) hx hb hown (ht _ zw_800) d_D_init_293 ?_
  refine va_last hx hb hK hP hD hS 1 0 rfl rfl (by unfold vp_in; decide) d_D_init_296 (fun H locs hP hD hS => ?_)
  have hP : va_P D vwCl ([(x0, .inr (6, fs)), (q, .inl (cq, 91, .inr (.inl (vp_updL (tbL nmL 41) (41 : Int32).toNatClampNeg (491563020919 : Int64)))))]) H := hP
  have hD : va_D A ([(x0, .inr (6, fs)), (q, .inl (cq, 91, .inr (.inl (vp_updL (tbL nmL 41) (41 : Int32).toNatClampNeg (491563020919 : Int64)))))]) := hD
  rw [tbL_s (L := nmL) (k := 41) (i := (41 : Int32)) (v := (491563020919 : Int64)) rfl rfl] at hP hD
  refine lv_dup hx hb d_D_init_297 rfl ?_
  refine lv_bipush (v := (42 : Int32)) hx hb d_D_init_298 (by decide) ?_
  refine lv_ldc2 (v := (469920871031 : Int64)) hx hb hown (ht _ zw_801) d_D_init_300 ?_
  refine va_last hx hb hK hP hD hS 1 0 rfl rfl (by unfold vp_in; decide) d_D_init_303 (fun H locs hP hD hS => ?_)
  have hP : va_P D vwCl ([(x0, .inr (6, fs)), (q, .inl (cq, 91, .inr (.inl (vp_updL (tbL nmL 42) (42 : Int32).toNatClampNeg (469920871031 : Int64)))))]) H := hP
  have hD : va_D A ([(x0, .inr (6, fs)), (q, .inl (cq, 91, .inr (.inl (vp_updL (tbL nmL 42) (42 : Int32).toNatClampNeg (469920871031 : Int64)))))]) := hD
  rw [tbL_s (L := nmL) (k := 42) (i := (42 : Int32)) (v := (469920871031 : Int64)) rfl rfl] at hP hD
  refine lv_dup hx hb d_D_init_304 rfl ?_
  refine lv_bipush (v := (43 : Int32)) hx hb d_D_init_305 (by decide) ?_
  refine lv_ldc2 (v := (491278070391 : Int64)) hx hb hown (ht _ zw_802) d_D_init_307 ?_
  refine va_last hx hb hK hP hD hS 1 0 rfl rfl (by unfold vp_in; decide) d_D_init_310 (fun H locs hP hD hS => ?_)
  have hP : va_P D vwCl ([(x0, .inr (6, fs)), (q, .inl (cq, 91, .inr (.inl (vp_updL (tbL nmL 43) (43 : Int32).toNatClampNeg (491278070391 : Int64)))))]) H := hP
  have hD : va_D A ([(x0, .inr (6, fs)), (q, .inl (cq, 91, .inr (.inl (vp_updL (tbL nmL 43) (43 : Int32).toNatClampNeg (491278070391 : Int64)))))]) := hD
  rw [tbL_s (L := nmL) (k := 43) (i := (43 : Int32)) (v := (491278070391 : Int64)) rfl rfl] at hP hD
  refine lv_dup hx hb d_D_init_311 rfl ?_
  refine lv_bipush (v := (44 : Int32)) hx hb d_D_init_312 (by decide) ?_
  refine lv_ldc2 (v := (1953785202 : Int64)) hx hb hown (ht _ zw_803) d_D_init_314 ?_
  refine va_last hx hb hK hP hD hS 1 0 rfl rfl (by unfold vp_in; decide) d_D_init_317 (fun H locs hP hD hS => ?_)
  have hP : va_P D vwCl ([(x0, .inr (6, fs)), (q, .inl (cq, 91, .inr (.inl (vp_updL (tbL nmL 44) (44 : Int32).toNatClampNeg (1953785202 : Int64)))))]) H := hP
  have hD : va_D A ([(x0, .inr (6, fs)), (q, .inl (cq, 91, .inr (.inl (vp_updL (tbL nmL 44) (44 : Int32).toNatClampNeg (1953785202 : Int64)))))]) := hD
  rw [tbL_s (L := nmL) (k := 44) (i := (44 : Int32)) (v := (1953785202 : Int64)) rfl rfl] at hP hD
  refine lv_dup hx hb d_D_init_318 rfl ?_
  refine lv_bipush (v := (45 : Int32)) hx hb d_D_init_319 (by decide) ?_
  refine lv_ldc2 (v := (1819042147 : Int64)) hx hb hown (ht _ zw_804) d_D_init_321 ?_
  refine va_last hx hb hK hP hD hS 1 0 rfl rfl (by unfold vp_in; decide) d_D_init_324 (fun H locs hP hD hS => ?_)
  have hP : va_P D vwCl ([(x0, .inr (6, fs)), (q, .inl (cq, 91, .inr (.inl (vp_updL (tbL nmL 45) (45 : Int32).toNatClampNeg (1819042147 : Int64)))))]) H := hP
  have hD : va_D A ([(x0, .inr (6, fs)), (q, .inl (cq, 91, .inr (.inl (vp_updL (tbL nmL 45) (45 : Int32).toNatClampNeg (1819042147 : Int64)))))]) := hD
  rw [tbL_s (L := nmL) (k := 45) (i := (45 : Int32)) (v := (1819042147 : Int64)) rfl rfl] at hP hD
  refine lv_dup hx hb d_D_init_325 rfl ?_
  refine lv_bipush (v := (46 : Int32)) hx hb d_D_init_326 (by decide) ?_
  refine lv_ldc2 (v := (28258 : Int64)) hx hb hown (ht _ zw_805) d_D_init_328 ?_
  refine va_last hx hb hK hP hD hS 1 0 rfl rfl (by unfold vp_in; decide) d_D_init_331 (fun H locs hP hD hS => ?_)
  have hP : va_P D vwCl ([(x0, .inr (6, fs)), (q, .inl (cq, 91, .inr (.inl (vp_updL (tbL nmL 46) (46 : Int32).toNatClampNeg (28258 : Int64)))))]) H := hP
  have hD : va_D A ([(x0, .inr (6, fs)), (q, .inl (cq, 91, .inr (.inl (vp_updL (tbL nmL 46) (46 : Int32).toNatClampNeg (28258 : Int64)))))]) := hD
  rw [tbL_s (L := nmL) (k := 46) (i := (46 : Int32)) (v := (28258 : Int64)) rfl rfl] at hP hD
  refine lv_dup hx hb d_D_init_332 rfl ?_
  refine lv_bipush (v := (47 : Int32)) hx hb d_D_init_333 (by decide) ?_
  refine lv_ldc2 (v := (28276 : Int64)) hx hb hown (ht _ zw_806) d_D_init_335 ?_
  refine va_last hx hb hK hP hD hS 1 0 rfl rfl (by unfold vp_in; decide) d_D_init_338 (fun H locs hP hD hS => ?_)
  have hP : va_P D vwCl ([(x0, .inr (6, fs)), (q, .inl (cq, 91, .inr (.inl (vp_updL (tbL nmL 47) (47 : Int32).toNatClampNeg (28276 : Int64)))))]) H := hP
  have hD : va_D A ([(x0, .inr (6, fs)), (q, .inl (cq, 91, .inr (.inl (vp_updL (tbL nmL 47) (47 : Int32).toNatClampNeg (28276 : Int64)))))]) := hD
  rw [tbL_s (L := nmL) (k := 47) (i := (47 : Int32)) (v := (28276 : Int64)) rfl rfl] at hP hD
  refine lv_dup hx hb d_D_init_339 rfl ?_
  refine lv_bipush (v := (48 : Int32)) hx hb d_D_init_340 (by decide) ?_
  refine lv_ldc2 (v := (25954 : Int64)) hx hb hown (ht _ zw_807) d_D_init_342 ?_
  refine va_last hx hb hK hP hD hS 1 0 rfl rfl (by unfold vp_in; decide) d_D_init_345 (fun H locs hP hD hS => ?_)
  have hP : va_P D vwCl ([(x0, .inr (6, fs)), (q, .inl (cq, 91, .inr (.inl (vp_updL (tbL nmL 48) (48 : Int32).toNatClampNeg (25954 : Int64)))))]) H := hP
  have hD : va_D A ([(x0, .inr (6, fs)), (q, .inl (cq, 91, .inr (.inl (vp_updL (tbL nmL 48) (48 : Int32).toNatClampNeg (25954 : Int64)))))]) := hD
  rw [tbL_s (L := nmL) (k := 48) (i := (48 : Int32)) (v := (25954 : Int64)) rfl rfl] at hP hD
  refine lv_dup hx hb d_D_init_346 rfl ?_
  refine lv_bipush (v := (49 : Int32)) hx hb d_D_init_347 (by decide) ?_
  refine lv_ldc2 (v := (25972 : Int64)) hx hb hown (ht _ zw_808) d_D_init_349 ?_
  refine va_last hx hb hK hP hD hS 1 0 rfl rfl (by unfold vp_in; decide) d_D_init_352 (fun H locs hP hD hS => ?_)
  have hP : va_P D vwCl ([(x0, .inr (6, fs)), (q, .inl (cq, 91, .inr (.inl (vp_updL (tbL nmL 49) (49 : Int32).toNatClampNeg (25972 : Int64)))))]) H := hP
  have hD : va_D A ([(x0, .inr (6, fs)), (q, .inl (cq, 91, .inr (.inl (vp_updL (tbL nmL 49) (49 : Int32).toNatClampNeg (25972 : Int64)))))]) := hD
  rw [tbL_s (L := nmL) (k := 49) (i := (49 : Int32)) (v := (25972 : Int64)) rfl rfl] at hP hD
  refine lv_dup hx hb d_D_init_353 rfl ?_
  refine lv_bipush (v := (50 : Int32)) hx hb d_D_init_354 (by decide) ?_
  refine lv_ldc2 (v := (6646882 : Int64)) hx hb hown (ht _ zw_809) d_D_init_356 ?_
  refine va_last hx hb hK hP hD hS 1 0 rfl rfl (by unfold vp_in; decide) d_D_init_359 (fun H locs hP hD hS => ?_)
  have hP : va_P D vwCl ([(x0, .inr (6, fs)), (q, .inl (cq, 91, .inr (.inl (vp_updL (tbL nmL 50) (50 : Int32).toNatClampNeg (6646882 : Int64)))))]) H := hP
  have hD : va_D A ([(x0, .inr (6, fs)), (q, .inl (cq, 91, .inr (.inl (vp_updL (tbL nmL 50) (50 : Int32).toNatClampNeg (6646882 : Int64)))))]) := hD
  rw [tbL_s (L := nmL) (k := 50) (i := (50 : Int32)) (v := (6646882 : Int64)) rfl rfl] at hP hD
  refine lv_dup hx hb d_D_init_360 rfl ?_
  refine lv_bipush (v := (51 : Int32)) hx hb d_D_init_361 (by decide) ?_
  refine lv_ldc2 (v := (6646900 : Int64)) hx hb hown (ht _ zw_810) d_D_init_363 ?_
  refine va_last hx hb hK hP hD hS 1 0 rfl rfl (by unfold vp_in; decide) d_D_init_366 (fun H locs hP hD hS => ?_)
  have hP : va_P D vwCl ([(x0, .inr (6, fs)), (q, .inl (cq, 91, .inr (.inl (vp_updL (tbL nmL 51) (51 : Int32).toNatClampNeg (6646900 : Int64)))))]) H := hP
  have hD : va_D A ([(x0, .inr (6, fs)), (q, .inl (cq, 91, .inr (.inl (vp_updL (tbL nmL 51) (51 : Int32).toNatClampNeg (6646900 : Int64)))))]) := hD
  rw [tbL_s (L := nmL) (k := 51) (i := (51 : Int32)) (v := (6646900 : Int64)) rfl rfl] at hP hD
  exact kk H locs hP hD hS
set_option maxHeartbeats 4000000 in
set_option maxRecDepth 100000 in
theorem ch_D_init_367 {p : Program} {l : Launch} {e : Env} {R : Room} {s : State} {m : MethodId} {args : Array Value} {below : List Frame} {meth : Method} {c : Code} {H : Heap} {locs : List Loc} {cells slots : Nat} {Q : State → Prop} {ls : Array Slot} {D : va_G} {A : Nat → Prop} {fs : List Value} {x0 : Nat} {q : Nat} {cq : ClassId} {rest : List Value} (hx : p.tables.exec = Jvm.exec) (hb : c.code = c_D_init) (hown : s.vm.findClass "WindowMachineModel" = some m.cls) (ht : ∀ w9 ∈ zT, w9.before args s = true) (hK : va_K D vwCl [(cq, .long)] s) (hP : va_P D vwCl [(x0, .inr (6, fs)), (q, .inl (cq, 91, .inr (.inl (tbL nmL 52))))] H) (hD : va_D A [(x0, .inr (6, fs)), (q, .inl (cq, 91, .inr (.inl (tbL nmL 52))))]) (hS : va_S A s.heap H locs)
    (kk : ∀ (H : Heap) (locs : List Loc), va_P D vwCl [(x0, .inr (6, fs)), (q, .inl (cq, 91, .inr (.inl (tbL nmL 65))))] H → va_D A [(x0, .inr (6, fs)), (q, .inl (cq, 91, .inr (.inl (tbL nmL 65))))] → va_S A s.heap H locs → W p l e R s m args below meth c H locs cells slots Q (F0 m 458 ls (.ref q :: rest))) : W p l e R s m args below meth c H locs cells slots Q (F0 m 367 ls (.ref q :: rest)) := by
  refine lv_dup hx hb d_D_init_367 rfl ?_
  refine lv_bipush (v := (52 : Int32)) hx hb d_D_init_368 (by decide) ?_
  refine lv_ldc2 (v := (27746 : Int64)) hx hb hown (ht _ zw_811) d_D_init_370 ?_
  refine va_last hx hb hK hP hD hS 1 0 rfl rfl (by unfold vp_in; decide) d_D_init_373 (fun H locs hP hD hS => ?_)
  have hP : va_P D vwCl ([(x0, .inr (6, fs)), (q, .inl (cq, 91, .inr (.inl (vp_updL (tbL nmL 52) (52 : Int32).toNatClampNeg (27746 : Int64)))))]) H := hP
  have hD : va_D A ([(x0, .inr (6, fs)), (q, .inl (cq, 91, .inr (.inl (vp_updL (tbL nmL 52) (52 : Int32).toNatClampNeg (27746 : Int64)))))]) := hD
  rw [tbL_s (L := nmL) (k := 52) (i := (52 : Int32)) (v := (27746 : Int64)) rfl rfl] at hP hD
  refine lv_dup hx hb d_D_init_374 rfl ?_
  refine lv_bipush (v := (53 : Int32)) hx hb d_D_init_375 (by decide) ?_
  refine lv_ldc2 (v := (27764 : Int64)) hx hb hown (ht _ zw_812) d_D_init_377 ?_
  refine va_last hx hb hK hP hD hS 1 0 rfl rfl (by unfold vp_in; decide) d_D_init_380 (fun H locs hP hD hS => ?_)
  have hP : va_P D vwCl ([(x0, .inr (6, fs)), (q, .inl (cq, 91, .inr (.inl (vp_updL (tbL nmL 53) (53 : Int32).toNatClampNeg (27764 : Int64)))))]) H := hP
  have hD : va_D A ([(x0, .inr (6, fs)), (q, .inl (cq, 91, .inr (.inl (vp_updL (tbL nmL 53) (53 : Int32).toNatClampNeg (27764 : Int64)))))]) := hD
  rw [tbL_s (L := nmL) (k := 53) (i := (53 : Int32)) (v := (27764 : Int64)) rfl rfl] at hP hD
  refine lv_dup hx hb d_D_init_381 rfl ?_
  refine lv_bipush (v := (54 : Int32)) hx hb d_D_init_382 (by decide) ?_
  refine lv_ldc2 (v := (1969581154 : Int64)) hx hb hown (ht _ zw_813) d_D_init_384 ?_
  refine va_last hx hb hK hP hD hS 1 0 rfl rfl (by unfold vp_in; decide) d_D_init_387 (fun H locs hP hD hS => ?_)
  have hP : va_P D vwCl ([(x0, .inr (6, fs)), (q, .inl (cq, 91, .inr (.inl (vp_updL (tbL nmL 54) (54 : Int32).toNatClampNeg (1969581154 : Int64)))))]) H := hP
  have hD : va_D A ([(x0, .inr (6, fs)), (q, .inl (cq, 91, .inr (.inl (vp_updL (tbL nmL 54) (54 : Int32).toNatClampNeg (1969581154 : Int64)))))]) := hD
  rw [tbL_s (L := nmL) (k := 54) (i := (54 : Int32)) (v := (1969581154 : Int64)) rfl rfl] at hP hD
  refine lv_dup hx hb d_D_init_388 rfl ?_
  refine lv_bipush (v := (55 : Int32)) hx hb d_D_init_389 (by decide) ?_
  refine lv_ldc2 (v := (1969581172 : Int64)) hx hb hown (ht _ zw_814) d_D_init_391 ?_
  refine va_last hx hb hK hP hD hS 1 0 rfl rfl (by unfold vp_in; decide) d_D_init_394 (fun H locs hP hD hS => ?_)
  have hP : va_P D vwCl ([(x0, .inr (6, fs)), (q, .inl (cq, 91, .inr (.inl (vp_updL (tbL nmL 55) (55 : Int32).toNatClampNeg (1969581172 : Int64)))))]) H := hP
  have hD : va_D A ([(x0, .inr (6, fs)), (q, .inl (cq, 91, .inr (.inl (vp_updL (tbL nmL 55) (55 : Int32).toNatClampNeg (1969581172 : Int64)))))]) := hD
  rw [tbL_s (L := nmL) (k := 55) (i := (55 : Int32)) (v := (1969581172 : Int64)) rfl rfl] at hP hD
  refine lv_dup hx hb d_D_init_395 rfl ?_
  refine lv_bipush (v := (56 : Int32)) hx hb d_D_init_396 (by decide) ?_
  refine lv_ldc2 (v := (7562082 : Int64)) hx hb hown (ht _ zw_815) d_D_init_398 ?_
  refine va_last hx hb hK hP hD hS 1 0 rfl rfl (by unfold vp_in; decide) d_D_init_401 (fun H locs hP hD hS => ?_)
  have hP : va_P D vwCl ([(x0, .inr (6, fs)), (q, .inl (cq, 91, .inr (.inl (vp_updL (tbL nmL 56) (56 : Int32).toNatClampNeg (7562082 : Int64)))))]) H := hP
  have hD : va_D A ([(x0, .inr (6, fs)), (q, .inl (cq, 91, .inr (.inl (vp_updL (tbL nmL 56) (56 : Int32).toNatClampNeg (7562082 : Int64)))))]) := hD
  rw [tbL_s (L := nmL) (k := 56) (i := (56 : Int32)) (v := (7562082 : Int64)) rfl rfl] at hP hD
  refine lv_dup hx hb d_D_init_402 rfl ?_
  refine lv_bipush (v := (57 : Int32)) hx hb d_D_init_403 (by decide) ?_
  refine lv_ldc2 (v := (7562100 : Int64)) hx hb hown (ht _ zw_816) d_D_init_405 ?_
  refine va_last hx hb hK hP hD hS 1 0 rfl rfl (by unfold vp_in; decide) d_D_init_408 (fun H locs hP hD hS => ?_)
  have hP : va_P D vwCl ([(x0, .inr (6, fs)), (q, .inl (cq, 91, .inr (.inl (vp_updL (tbL nmL 57) (57 : Int32).toNatClampNeg (7562100 : Int64)))))]) H := hP
  have hD : va_D A ([(x0, .inr (6, fs)), (q, .inl (cq, 91, .inr (.inl (vp_updL (tbL nmL 57) (57 : Int32).toNatClampNeg (7562100 : Int64)))))]) := hD
  rw [tbL_s (L := nmL) (k := 57) (i := (57 : Int32)) (v := (7562100 : Int64)) rfl rfl] at hP hD
  refine lv_dup hx hb d_D_init_409 rfl ?_
  refine lv_bipush (v := (58 : Int32)) hx hb d_D_init_410 (by decide) ?_
  refine lv_ldc2 (v := (1734700642 : Int64)) hx hb hown (ht _ zw_817) d_D_init_412 ?_
  refine va_last hx hb hK hP hD hS 1 0 rfl rfl (by unfold vp_in; decide) d_D_init_415 (fun H locs hP hD hS => ?_)
  have hP : va_P D vwCl ([(x0, .inr (6, fs)), (q, .inl (cq, 91, .inr (.inl (vp_updL (tbL nmL 58) (58 : Int32).toNatClampNeg (1734700642 : Int64)))))]) H := hP
  have hD : va_D A ([(x0, .inr (6, fs)), (q, .inl (cq, 91, .inr (.inl (vp_updL (tbL nmL 58) (58 : Int32).toNatClampNeg (1734700642 : Int64)))))]) := hD
  rw [tbL_s (L := nmL) (k := 58) (i := (58 : Int32)) (v := (1734700642 : Int64)) rfl rfl] at hP hD
  refine lv_dup hx hb d_D_init_416 rfl ?_
  refine lv_bipush (v := (59 : Int32)) hx hb d_D_init_417 (by decide) ?_
  refine lv_ldc2 (v := (1734700660 : Int64)) hx hb hown (ht _ zw_818) d_D_init_419 ?_
  refine va_last hx hb hK hP hD hS 1 0 rfl rfl (by unfold vp_in; decide) d_D_init_422 (fun H locs hP hD hS => ?_)
  have hP : va_P D vwCl ([(x0, .inr (6, fs)), (q, .inl (cq, 91, .inr (.inl (vp_updL (tbL nmL 59) (59 : Int32).toNatClampNeg (1734700660 : Int64)))))]) H := hP
  have hD : va_D A ([(x0, .inr (6, fs)), (q, .inl (cq, 91, .inr (.inl (vp_updL (tbL nmL 59) (59 : Int32).toNatClampNeg (1734700660 : Int64)))))]) := hD
  rw [tbL_s (L := nmL) (k := 59) (i := (59 : Int32)) (v := (1734700660 : Int64)) rfl rfl] at hP hD
  refine lv_dup hx hb d_D_init_423 rfl ?_
  refine lv_bipush (v := (60 : Int32)) hx hb d_D_init_424 (by decide) ?_
  refine lv_ldc2 (v := (7566946 : Int64)) hx hb hown (ht _ zw_819) d_D_init_426 ?_
  refine va_last hx hb hK hP hD hS 1 0 rfl rfl (by unfold vp_in; decide) d_D_init_429 (fun H locs hP hD hS => ?_)
  have hP : va_P D vwCl ([(x0, .inr (6, fs)), (q, .inl (cq, 91, .inr (.inl (vp_updL (tbL nmL 60) (60 : Int32).toNatClampNeg (7566946 : Int64)))))]) H := hP
  have hD : va_D A ([(x0, .inr (6, fs)), (q, .inl (cq, 91, .inr (.inl (vp_updL (tbL nmL 60) (60 : Int32).toNatClampNeg (7566946 : Int64)))))]) := hD
  rw [tbL_s (L := nmL) (k := 60) (i := (60 : Int32)) (v := (7566946 : Int64)) rfl rfl] at hP hD
  refine lv_dup hx hb d_D_init_430 rfl ?_
  refine lv_bipush (v := (61 : Int32)) hx hb d_D_init_431 (by decide) ?_
  refine lv_ldc2 (v := (7566964 : Int64)) hx hb hown (ht _ zw_820) d_D_init_433 ?_
  refine va_last hx hb hK hP hD hS 1 0 rfl rfl (by unfold vp_in; decide) d_D_init_436 (fun H locs hP hD hS => ?_)
  have hP : va_P D vwCl ([(x0, .inr (6, fs)), (q, .inl (cq, 91, .inr (.inl (vp_updL (tbL nmL 61) (61 : Int32).toNatClampNeg (7566964 : Int64)))))]) H := hP
  have hD : va_D A ([(x0, .inr (6, fs)), (q, .inl (cq, 91, .inr (.inl (vp_updL (tbL nmL 61) (61 : Int32).toNatClampNeg (7566964 : Int64)))))]) := hD
  rw [tbL_s (L := nmL) (k := 61) (i := (61 : Int32)) (v := (7566964 : Int64)) rfl rfl] at hP hD
  refine lv_dup hx hb d_D_init_437 rfl ?_
  refine lv_bipush (v := (62 : Int32)) hx hb d_D_init_438 (by decide) ?_
  refine lv_ldc2 (v := (24930 : Int64)) hx hb hown (ht _ zw_821) d_D_init_440 ?_
  refine va_last hx hb hK hP hD hS 1 0 rfl rfl (by unfold vp_in; decide) d_D_init_443 (fun H locs hP hD hS => ?_)
  have hP : va_P D vwCl ([(x0, .inr (6, fs)), (q, .inl (cq, 91, .inr (.inl (vp_updL (tbL nmL 62) (62 : Int32).toNatClampNeg (24930 : Int64)))))]) H := hP
  have hD : va_D A ([(x0, .inr (6, fs)), (q, .inl (cq, 91, .inr (.inl (vp_updL (tbL nmL 62) (62 : Int32).toNatClampNeg (24930 : Int64)))))]) := hD
  rw [tbL_s (L := nmL) (k := 62) (i := (62 : Int32)) (v := (24930 : Int64)) rfl rfl] at hP hD
  refine lv_dup hx hb d_D_init_444 rfl ?_
  refine lv_bipush (v := (63 : Int32)) hx hb d_D_init_445 (by decide) ?_
  refine lv_ldc2 (v := (24948 : Int64)) hx hb hown (ht _ zw_822) d_D_init_447 ?_
  refine va_last hx hb hK hP hD hS 1 0 rfl rfl (by unfold vp_in; decide) d_D_init_450 (fun H locs hP hD hS => ?_)
  have hP : va_P D vwCl ([(x0, .inr (6, fs)), (q, .inl (cq, 91, .inr (.inl (vp_updL (tbL nmL 63) (63 : Int32).toNatClampNeg (24948 : Int64)))))]) H := hP
  have hD : va_D A ([(x0, .inr (6, fs)), (q, .inl (cq, 91, .inr (.inl (vp_updL (tbL nmL 63) (63 : Int32).toNatClampNeg (24948 : Int64)))))]) := hD
  rw [tbL_s (L := nmL) (k := 63) (i := (63 : Int32)) (v := (24948 : Int64)) rfl rfl] at hP hD
  refine lv_dup hx hb d_D_init_451 rfl ?_
  refine lv_bipush (v := (64 : Int32)) hx hb d_D_init_452 (by decide) ?_
  refine lv_ldc2 (v := (6647394 : Int64)) hx hb hown (ht _ zw_823) d_D_init_454 ?_
  refine va_last hx hb hK hP hD hS 1 0 rfl rfl (by unfold vp_in; decide) d_D_init_457 (fun H locs hP hD hS => ?_)
  have hP : va_P D vwCl ([(x0, .inr (6, fs)), (q, .inl (cq, 91, .inr (.inl (vp_updL (tbL nmL 64) (64 : Int32).toNatClampNeg (6647394 : Int64)))))]) H := hP
  have hD : va_D A ([(x0, .inr (6, fs)), (q, .inl (cq, 91, .inr (.inl (vp_updL (tbL nmL 64) (64 : Int32).toNatClampNeg (6647394 : Int64)))))]) := hD
  rw [tbL_s (L := nmL) (k := 64) (i := (64 : Int32)) (v := (6647394 : Int64)) rfl rfl] at hP hD
  exact kk H locs hP hD hS
set_option maxHeartbeats 4000000 in
set_option maxRecDepth 100000 in
theorem ch_D_init_458 {p : Program} {l : Launch} {e : Env} {R : Room} {s : State} {m : MethodId} {args : Array Value} {below : List Frame} {meth : Method} {c : Code} {H : Heap} {locs : List Loc} {cells slots : Nat} {Q : State → Prop} {ls : Array Slot} {D : va_G} {A : Nat → Prop} {fs : List Value} {x0 : Nat} {q : Nat} {cq : ClassId} {rest : List Value} (hx : p.tables.exec = Jvm.exec) (hb : c.code = c_D_init) (hown : s.vm.findClass "WindowMachineModel" = some m.cls) (ht : ∀ w9 ∈ zT, w9.before args s = true) (hK : va_K D vwCl [(cq, .long)] s) (hP : va_P D vwCl [(x0, .inr (6, fs)), (q, .inl (cq, 91, .inr (.inl (tbL nmL 65))))] H) (hD : va_D A [(x0, .inr (6, fs)), (q, .inl (cq, 91, .inr (.inl (tbL nmL 65))))]) (hS : va_S A s.heap H locs)
    (kk : ∀ (H : Heap) (locs : List Loc), va_P D vwCl [(x0, .inr (6, fs)), (q, .inl (cq, 91, .inr (.inl (tbL nmL 78))))] H → va_D A [(x0, .inr (6, fs)), (q, .inl (cq, 91, .inr (.inl (tbL nmL 78))))] → va_S A s.heap H locs → W p l e R s m args below meth c H locs cells slots Q (F0 m 549 ls (.ref q :: rest))) : W p l e R s m args below meth c H locs cells slots Q (F0 m 458 ls (.ref q :: rest)) := by
  refine lv_dup hx hb d_D_init_458 rfl ?_
  refine lv_bipush (v := (65 : Int32)) hx hb d_D_init_459 (by decide) ?_
  refine lv_ldc2 (v := (6647412 : Int64)) hx hb hown (ht _ zw_824) d_D_init_461 ?_
  refine va_last hx hb hK hP hD hS 1 0 rfl rfl (by unfold vp_in; decide) d_D_init_464 (fun H locs hP hD hS => ?_)
  have hP : va_P D vwCl ([(x0, .inr (6, fs)), (q, .inl (cq, 91, .inr (.inl (vp_updL (tbL nmL 65) (65 : Int32).toNatClampNeg (6647412 : Int64)))))]) H := hP
  have hD : va_D A ([(x0, .inr (6, fs)), (q, .inl (cq, 91, .inr (.inl (vp_updL (tbL nmL 65) (65 : Int32).toNatClampNeg (6647412 : Int64)))))]) := hD
  rw [tbL_s (L := nmL) (k := 65) (i := (65 : Int32)) (v := (6647412 : Int64)) rfl rfl] at hP hD
  refine lv_dup hx hb d_D_init_465 rfl ?_
  refine lv_bipush (v := (66 : Int32)) hx hb d_D_init_466 (by decide) ?_
  refine lv_ldc2 (v := (26466 : Int64)) hx hb hown (ht _ zw_825) d_D_init_468 ?_
  refine va_last hx hb hK hP hD hS 1 0 rfl rfl (by unfold vp_in; decide) d_D_init_471 (fun H locs hP hD hS => ?_)
  have hP : va_P D vwCl ([(x0, .inr (6, fs)), (q, .inl (cq, 91, .inr (.inl (vp_updL (tbL nmL 66) (66 : Int32).toNatClampNeg (26466 : Int64)))))]) H := hP
  have hD : va_D A ([(x0, .inr (6, fs)), (q, .inl (cq, 91, .inr (.inl (vp_updL (tbL nmL 66) (66 : Int32).toNatClampNeg (26466 : Int64)))))]) := hD
  rw [tbL_s (L := nmL) (k := 66) (i := (66 : Int32)) (v := (26466 : Int64)) rfl rfl] at hP hD
  refine lv_dup hx hb d_D_init_472 rfl ?_
  refine lv_bipush (v := (67 : Int32)) hx hb d_D_init_473 (by decide) ?_
  refine lv_ldc2 (v := (26484 : Int64)) hx hb hown (ht _ zw_826) d_D_init_475 ?_
  refine va_last hx hb hK hP hD hS 1 0 rfl rfl (by unfold vp_in; decide) d_D_init_478 (fun H locs hP hD hS => ?_)
  have hP : va_P D vwCl ([(x0, .inr (6, fs)), (q, .inl (cq, 91, .inr (.inl (vp_updL (tbL nmL 67) (67 : Int32).toNatClampNeg (26484 : Int64)))))]) H := hP
  have hD : va_D A ([(x0, .inr (6, fs)), (q, .inl (cq, 91, .inr (.inl (vp_updL (tbL nmL 67) (67 : Int32).toNatClampNeg (26484 : Int64)))))]) := hD
  rw [tbL_s (L := nmL) (k := 67) (i := (67 : Int32)) (v := (26484 : Int64)) rfl rfl] at hP hD
  refine lv_dup hx hb d_D_init_479 rfl ?_
  refine lv_bipush (v := (68 : Int32)) hx hb d_D_init_480 (by decide) ?_
  refine lv_ldc2 (v := (6645602 : Int64)) hx hb hown (ht _ zw_827) d_D_init_482 ?_
  refine va_last hx hb hK hP hD hS 1 0 rfl rfl (by unfold vp_in; decide) d_D_init_485 (fun H locs hP hD hS => ?_)
  have hP : va_P D vwCl ([(x0, .inr (6, fs)), (q, .inl (cq, 91, .inr (.inl (vp_updL (tbL nmL 68) (68 : Int32).toNatClampNeg (6645602 : Int64)))))]) H := hP
  have hD : va_D A ([(x0, .inr (6, fs)), (q, .inl (cq, 91, .inr (.inl (vp_updL (tbL nmL 68) (68 : Int32).toNatClampNeg (6645602 : Int64)))))]) := hD
  rw [tbL_s (L := nmL) (k := 68) (i := (68 : Int32)) (v := (6645602 : Int64)) rfl rfl] at hP hD
  refine lv_dup hx hb d_D_init_486 rfl ?_
  refine lv_bipush (v := (69 : Int32)) hx hb d_D_init_487 (by decide) ?_
  refine lv_ldc2 (v := (6645620 : Int64)) hx hb hown (ht _ zw_828) d_D_init_489 ?_
  refine va_last hx hb hK hP hD hS 1 0 rfl rfl (by unfold vp_in; decide) d_D_init_492 (fun H locs hP hD hS => ?_)
  have hP : va_P D vwCl ([(x0, .inr (6, fs)), (q, .inl (cq, 91, .inr (.inl (vp_updL (tbL nmL 69) (69 : Int32).toNatClampNeg (6645620 : Int64)))))]) H := hP
  have hD : va_D A ([(x0, .inr (6, fs)), (q, .inl (cq, 91, .inr (.inl (vp_updL (tbL nmL 69) (69 : Int32).toNatClampNeg (6645620 : Int64)))))]) := hD
  rw [tbL_s (L := nmL) (k := 69) (i := (69 : Int32)) (v := (6645620 : Int64)) rfl rfl] at hP hD
  refine lv_dup hx hb d_D_init_493 rfl ?_
  refine lv_bipush (v := (70 : Int32)) hx hb d_D_init_494 (by decide) ?_
  refine lv_ldc2 (v := (7694178 : Int64)) hx hb hown (ht _ zw_829) d_D_init_496 ?_
  refine va_last hx hb hK hP hD hS 1 0 rfl rfl (by unfold vp_in; decide) d_D_init_499 (fun H locs hP hD hS => ?_)
  have hP : va_P D vwCl ([(x0, .inr (6, fs)), (q, .inl (cq, 91, .inr (.inl (vp_updL (tbL nmL 70) (70 : Int32).toNatClampNeg (7694178 : Int64)))))]) H := hP
  have hD : va_D A ([(x0, .inr (6, fs)), (q, .inl (cq, 91, .inr (.inl (vp_updL (tbL nmL 70) (70 : Int32).toNatClampNeg (7694178 : Int64)))))]) := hD
  rw [tbL_s (L := nmL) (k := 70) (i := (70 : Int32)) (v := (7694178 : Int64)) rfl rfl] at hP hD
  refine lv_dup hx hb d_D_init_500 rfl ?_
  refine lv_bipush (v := (71 : Int32)) hx hb d_D_init_501 (by decide) ?_
  refine lv_ldc2 (v := (7694196 : Int64)) hx hb hown (ht _ zw_830) d_D_init_503 ?_
  refine va_last hx hb hK hP hD hS 1 0 rfl rfl (by unfold vp_in; decide) d_D_init_506 (fun H locs hP hD hS => ?_)
  have hP : va_P D vwCl ([(x0, .inr (6, fs)), (q, .inl (cq, 91, .inr (.inl (vp_updL (tbL nmL 71) (71 : Int32).toNatClampNeg (7694196 : Int64)))))]) H := hP
  have hD : va_D A ([(x0, .inr (6, fs)), (q, .inl (cq, 91, .inr (.inl (vp_updL (tbL nmL 71) (71 : Int32).toNatClampNeg (7694196 : Int64)))))]) := hD
  rw [tbL_s (L := nmL) (k := 71) (i := (71 : Int32)) (v := (7694196 : Int64)) rfl rfl] at hP hD
  refine lv_dup hx hb d_D_init_507 rfl ?_
  refine lv_bipush (v := (72 : Int32)) hx hb d_D_init_508 (by decide) ?_
  refine lv_ldc2 (v := (6513506 : Int64)) hx hb hown (ht _ zw_831) d_D_init_510 ?_
  refine va_last hx hb hK hP hD hS 1 0 rfl rfl (by unfold vp_in; decide) d_D_init_513 (fun H locs hP hD hS => ?_)
  have hP : va_P D vwCl ([(x0, .inr (6, fs)), (q, .inl (cq, 91, .inr (.inl (vp_updL (tbL nmL 72) (72 : Int32).toNatClampNeg (6513506 : Int64)))))]) H := hP
  have hD : va_D A ([(x0, .inr (6, fs)), (q, .inl (cq, 91, .inr (.inl (vp_updL (tbL nmL 72) (72 : Int32).toNatClampNeg (6513506 : Int64)))))]) := hD
  rw [tbL_s (L := nmL) (k := 72) (i := (72 : Int32)) (v := (6513506 : Int64)) rfl rfl] at hP hD
  refine lv_dup hx hb d_D_init_514 rfl ?_
  refine lv_bipush (v := (73 : Int32)) hx hb d_D_init_515 (by decide) ?_
  refine lv_ldc2 (v := (6513524 : Int64)) hx hb hown (ht _ zw_832) d_D_init_517 ?_
  refine va_last hx hb hK hP hD hS 1 0 rfl rfl (by unfold vp_in; decide) d_D_init_520 (fun H locs hP hD hS => ?_)
  have hP : va_P D vwCl ([(x0, .inr (6, fs)), (q, .inl (cq, 91, .inr (.inl (vp_updL (tbL nmL 73) (73 : Int32).toNatClampNeg (6513524 : Int64)))))]) H := hP
  have hD : va_D A ([(x0, .inr (6, fs)), (q, .inl (cq, 91, .inr (.inl (vp_updL (tbL nmL 73) (73 : Int32).toNatClampNeg (6513524 : Int64)))))]) := hD
  rw [tbL_s (L := nmL) (k := 73) (i := (73 : Int32)) (v := (6513524 : Int64)) rfl rfl] at hP hD
  refine lv_dup hx hb d_D_init_521 rfl ?_
  refine lv_bipush (v := (74 : Int32)) hx hb d_D_init_522 (by decide) ?_
  refine lv_ldc2 (v := (1936683106 : Int64)) hx hb hown (ht _ zw_833) d_D_init_524 ?_
  refine va_last hx hb hK hP hD hS 1 0 rfl rfl (by unfold vp_in; decide) d_D_init_527 (fun H locs hP hD hS => ?_)
  have hP : va_P D vwCl ([(x0, .inr (6, fs)), (q, .inl (cq, 91, .inr (.inl (vp_updL (tbL nmL 74) (74 : Int32).toNatClampNeg (1936683106 : Int64)))))]) H := hP
  have hD : va_D A ([(x0, .inr (6, fs)), (q, .inl (cq, 91, .inr (.inl (vp_updL (tbL nmL 74) (74 : Int32).toNatClampNeg (1936683106 : Int64)))))]) := hD
  rw [tbL_s (L := nmL) (k := 74) (i := (74 : Int32)) (v := (1936683106 : Int64)) rfl rfl] at hP hD
  refine lv_dup hx hb d_D_init_528 rfl ?_
  refine lv_bipush (v := (75 : Int32)) hx hb d_D_init_529 (by decide) ?_
  refine lv_ldc2 (v := (1936683124 : Int64)) hx hb hown (ht _ zw_834) d_D_init_531 ?_
  refine va_last hx hb hK hP hD hS 1 0 rfl rfl (by unfold vp_in; decide) d_D_init_534 (fun H locs hP hD hS => ?_)
  have hP : va_P D vwCl ([(x0, .inr (6, fs)), (q, .inl (cq, 91, .inr (.inl (vp_updL (tbL nmL 75) (75 : Int32).toNatClampNeg (1936683124 : Int64)))))]) H := hP
  have hD : va_D A ([(x0, .inr (6, fs)), (q, .inl (cq, 91, .inr (.inl (vp_updL (tbL nmL 75) (75 : Int32).toNatClampNeg (1936683124 : Int64)))))]) := hD
  rw [tbL_s (L := nmL) (k := 75) (i := (75 : Int32)) (v := (1936683124 : Int64)) rfl rfl] at hP hD
  refine lv_dup hx hb d_D_init_535 rfl ?_
  refine lv_bipush (v := (76 : Int32)) hx hb d_D_init_536 (by decide) ?_
  refine lv_ldc2 (v := (6518370 : Int64)) hx hb hown (ht _ zw_835) d_D_init_538 ?_
  refine va_last hx hb hK hP hD hS 1 0 rfl rfl (by unfold vp_in; decide) d_D_init_541 (fun H locs hP hD hS => ?_)
  have hP : va_P D vwCl ([(x0, .inr (6, fs)), (q, .inl (cq, 91, .inr (.inl (vp_updL (tbL nmL 76) (76 : Int32).toNatClampNeg (6518370 : Int64)))))]) H := hP
  have hD : va_D A ([(x0, .inr (6, fs)), (q, .inl (cq, 91, .inr (.inl (vp_updL (tbL nmL 76) (76 : Int32).toNatClampNeg (6518370 : Int64)))))]) := hD
  rw [tbL_s (L := nmL) (k := 76) (i := (76 : Int32)) (v := (6518370 : Int64)) rfl rfl] at hP hD
  refine lv_dup hx hb d_D_init_542 rfl ?_
  refine lv_bipush (v := (77 : Int32)) hx hb d_D_init_543 (by decide) ?_
  refine lv_ldc2 (v := (6518388 : Int64)) hx hb hown (ht _ zw_836) d_D_init_545 ?_
  refine va_last hx hb hK hP hD hS 1 0 rfl rfl (by unfold vp_in; decide) d_D_init_548 (fun H locs hP hD hS => ?_)
  have hP : va_P D vwCl ([(x0, .inr (6, fs)), (q, .inl (cq, 91, .inr (.inl (vp_updL (tbL nmL 77) (77 : Int32).toNatClampNeg (6518388 : Int64)))))]) H := hP
  have hD : va_D A ([(x0, .inr (6, fs)), (q, .inl (cq, 91, .inr (.inl (vp_updL (tbL nmL 77) (77 : Int32).toNatClampNeg (6518388 : Int64)))))]) := hD
  rw [tbL_s (L := nmL) (k := 77) (i := (77 : Int32)) (v := (6518388 : Int64)) rfl rfl] at hP hD
  exact kk H locs hP hD hS
set_option maxHeartbeats 4000000 in
set_option maxRecDepth 100000 in
theorem ch_D_init_549 {p : Program} {l : Launch} {e : Env} {R : Room} {s : State} {m : MethodId} {args : Array Value} {below : List Frame} {meth : Method} {c : Code} {H : Heap} {locs : List Loc} {cells slots : Nat} {Q : State → Prop} {ls : Array Slot} {D : va_G} {A : Nat → Prop} {fs : List Value} {x0 : Nat} {q : Nat} {cq : ClassId} {rest : List Value} (hx : p.tables.exec = Jvm.exec) (hb : c.code = c_D_init) (hown : s.vm.findClass "WindowMachineModel" = some m.cls) (ht : ∀ w9 ∈ zT, w9.before args s = true) (hK : va_K D vwCl [(cq, .long)] s) (hP : va_P D vwCl [(x0, .inr (6, fs)), (q, .inl (cq, 91, .inr (.inl (tbL nmL 78))))] H) (hD : va_D A [(x0, .inr (6, fs)), (q, .inl (cq, 91, .inr (.inl (tbL nmL 78))))]) (hS : va_S A s.heap H locs)
    (kk : ∀ (H : Heap) (locs : List Loc), va_P D vwCl [(x0, .inr (6, fs)), (q, .inl (cq, 91, .inr (.inl (tbL nmL 91))))] H → va_D A [(x0, .inr (6, fs)), (q, .inl (cq, 91, .inr (.inl (tbL nmL 91))))] → va_S A s.heap H locs → W p l e R s m args below meth c H locs cells slots Q (F0 m 640 ls (.ref q :: rest))) : W p l e R s m args below meth c H locs cells slots Q (F0 m 549 ls (.ref q :: rest)) := by
  refine lv_dup hx hb d_D_init_549 rfl ?_
  refine lv_bipush (v := (78 : Int32)) hx hb d_D_init_550 (by decide) ?_
  refine lv_ldc2 (v := (25708 : Int64)) hx hb hown (ht _ zw_837) d_D_init_552 ?_
  refine va_last hx hb hK hP hD hS 1 0 rfl rfl (by unfold vp_in; decide) d_D_init_555 (fun H locs hP hD hS => ?_)
  have hP : va_P D vwCl ([(x0, .inr (6, fs)), (q, .inl (cq, 91, .inr (.inl (vp_updL (tbL nmL 78) (78 : Int32).toNatClampNeg (25708 : Int64)))))]) H := hP
  have hD : va_D A ([(x0, .inr (6, fs)), (q, .inl (cq, 91, .inr (.inl (vp_updL (tbL nmL 78) (78 : Int32).toNatClampNeg (25708 : Int64)))))]) := hD
  rw [tbL_s (L := nmL) (k := 78) (i := (78 : Int32)) (v := (25708 : Int64)) rfl rfl] at hP hD
  refine lv_dup hx hb d_D_init_556 rfl ?_
  refine lv_bipush (v := (79 : Int32)) hx hb d_D_init_557 (by decide) ?_
  refine lv_ldc2 (v := (1651860588 : Int64)) hx hb hown (ht _ zw_838) d_D_init_559 ?_
  refine va_last hx hb hK hP hD hS 1 0 rfl rfl (by unfold vp_in; decide) d_D_init_562 (fun H locs hP hD hS => ?_)
  have hP : va_P D vwCl ([(x0, .inr (6, fs)), (q, .inl (cq, 91, .inr (.inl (vp_updL (tbL nmL 79) (79 : Int32).toNatClampNeg (1651860588 : Int64)))))]) H := hP
  have hD : va_D A ([(x0, .inr (6, fs)), (q, .inl (cq, 91, .inr (.inl (vp_updL (tbL nmL 79) (79 : Int32).toNatClampNeg (1651860588 : Int64)))))]) := hD
  rw [tbL_s (L := nmL) (k := 79) (i := (79 : Int32)) (v := (1651860588 : Int64)) rfl rfl] at hP hD
  refine lv_dup hx hb d_D_init_563 rfl ?_
  refine lv_bipush (v := (80 : Int32)) hx hb d_D_init_564 (by decide) ?_
  refine lv_ldc2 (v := (1752523884 : Int64)) hx hb hown (ht _ zw_839) d_D_init_566 ?_
  refine va_last hx hb hK hP hD hS 1 0 rfl rfl (by unfold vp_in; decide) d_D_init_569 (fun H locs hP hD hS => ?_)
  have hP : va_P D vwCl ([(x0, .inr (6, fs)), (q, .inl (cq, 91, .inr (.inl (vp_updL (tbL nmL 80) (80 : Int32).toNatClampNeg (1752523884 : Int64)))))]) H := hP
  have hD : va_D A ([(x0, .inr (6, fs)), (q, .inl (cq, 91, .inr (.inl (vp_updL (tbL nmL 80) (80 : Int32).toNatClampNeg (1752523884 : Int64)))))]) := hD
  rw [tbL_s (L := nmL) (k := 80) (i := (80 : Int32)) (v := (1752523884 : Int64)) rfl rfl] at hP hD
  refine lv_dup hx hb d_D_init_570 rfl ?_
  refine lv_bipush (v := (81 : Int32)) hx hb d_D_init_571 (by decide) ?_
  refine lv_ldc2 (v := (6579308 : Int64)) hx hb hown (ht _ zw_840) d_D_init_573 ?_
  refine va_last hx hb hK hP hD hS 1 0 rfl rfl (by unfold vp_in; decide) d_D_init_576 (fun H locs hP hD hS => ?_)
  have hP : va_P D vwCl ([(x0, .inr (6, fs)), (q, .inl (cq, 91, .inr (.inl (vp_updL (tbL nmL 81) (81 : Int32).toNatClampNeg (6579308 : Int64)))))]) H := hP
  have hD : va_D A ([(x0, .inr (6, fs)), (q, .inl (cq, 91, .inr (.inl (vp_updL (tbL nmL 81) (81 : Int32).toNatClampNeg (6579308 : Int64)))))]) := hD
  rw [tbL_s (L := nmL) (k := 81) (i := (81 : Int32)) (v := (6579308 : Int64)) rfl rfl] at hP hD
  refine lv_dup hx hb d_D_init_577 rfl ?_
  refine lv_bipush (v := (82 : Int32)) hx hb d_D_init_578 (by decide) ?_
  refine lv_ldc2 (v := (1651729516 : Int64)) hx hb hown (ht _ zw_841) d_D_init_580 ?_
  refine va_last hx hb hK hP hD hS 1 0 rfl rfl (by unfold vp_in; decide) d_D_init_583 (fun H locs hP hD hS => ?_)
  have hP : va_P D vwCl ([(x0, .inr (6, fs)), (q, .inl (cq, 91, .inr (.inl (vp_updL (tbL nmL 82) (82 : Int32).toNatClampNeg (1651729516 : Int64)))))]) H := hP
  have hD : va_D A ([(x0, .inr (6, fs)), (q, .inl (cq, 91, .inr (.inl (vp_updL (tbL nmL 82) (82 : Int32).toNatClampNeg (1651729516 : Int64)))))]) := hD
  rw [tbL_s (L := nmL) (k := 82) (i := (82 : Int32)) (v := (1651729516 : Int64)) rfl rfl] at hP hD
  refine lv_dup hx hb d_D_init_584 rfl ?_
  refine lv_bipush (v := (83 : Int32)) hx hb d_D_init_585 (by decide) ?_
  refine lv_ldc2 (v := (1752392812 : Int64)) hx hb hown (ht _ zw_842) d_D_init_587 ?_
  refine va_last hx hb hK hP hD hS 1 0 rfl rfl (by unfold vp_in; decide) d_D_init_590 (fun H locs hP hD hS => ?_)
  have hP : va_P D vwCl ([(x0, .inr (6, fs)), (q, .inl (cq, 91, .inr (.inl (vp_updL (tbL nmL 83) (83 : Int32).toNatClampNeg (1752392812 : Int64)))))]) H := hP
  have hD : va_D A ([(x0, .inr (6, fs)), (q, .inl (cq, 91, .inr (.inl (vp_updL (tbL nmL 83) (83 : Int32).toNatClampNeg (1752392812 : Int64)))))]) := hD
  rw [tbL_s (L := nmL) (k := 83) (i := (83 : Int32)) (v := (1752392812 : Int64)) rfl rfl] at hP hD
  refine lv_dup hx hb d_D_init_591 rfl ?_
  refine lv_bipush (v := (84 : Int32)) hx hb d_D_init_592 (by decide) ?_
  refine lv_ldc2 (v := (108256604415084 : Int64)) hx hb hown (ht _ zw_843) d_D_init_594 ?_
  refine va_last hx hb hK hP hD hS 1 0 rfl rfl (by unfold vp_in; decide) d_D_init_597 (fun H locs hP hD hS => ?_)
  have hP : va_P D vwCl ([(x0, .inr (6, fs)), (q, .inl (cq, 91, .inr (.inl (vp_updL (tbL nmL 84) (84 : Int32).toNatClampNeg (108256604415084 : Int64)))))]) H := hP
  have hD : va_D A ([(x0, .inr (6, fs)), (q, .inl (cq, 91, .inr (.inl (vp_updL (tbL nmL 84) (84 : Int32).toNatClampNeg (108256604415084 : Int64)))))]) := hD
  rw [tbL_s (L := nmL) (k := 84) (i := (84 : Int32)) (v := (108256604415084 : Int64)) rfl rfl] at hP hD
  refine lv_dup hx hb d_D_init_598 rfl ?_
  refine lv_bipush (v := (85 : Int32)) hx hb d_D_init_599 (by decide) ?_
  refine lv_ldc2 (v := (1885435763 : Int64)) hx hb hown (ht _ zw_844) d_D_init_601 ?_
  refine va_last hx hb hK hP hD hS 1 0 rfl rfl (by unfold vp_in; decide) d_D_init_604 (fun H locs hP hD hS => ?_)
  have hP : va_P D vwCl ([(x0, .inr (6, fs)), (q, .inl (cq, 91, .inr (.inl (vp_updL (tbL nmL 85) (85 : Int32).toNatClampNeg (1885435763 : Int64)))))]) H := hP
  have hD : va_D A ([(x0, .inr (6, fs)), (q, .inl (cq, 91, .inr (.inl (vp_updL (tbL nmL 85) (85 : Int32).toNatClampNeg (1885435763 : Int64)))))]) := hD
  rw [tbL_s (L := nmL) (k := 85) (i := (85 : Int32)) (v := (1885435763 : Int64)) rfl rfl] at hP hD
  refine lv_dup hx hb d_D_init_605 rfl ?_
  refine lv_bipush (v := (86 : Int32)) hx hb d_D_init_606 (by decide) ?_
  refine lv_ldc2 (v := (29811 : Int64)) hx hb hown (ht _ zw_845) d_D_init_608 ?_
  refine va_last hx hb hK hP hD hS 1 0 rfl rfl (by unfold vp_in; decide) d_D_init_611 (fun H locs hP hD hS => ?_)
  have hP : va_P D vwCl ([(x0, .inr (6, fs)), (q, .inl (cq, 91, .inr (.inl (vp_updL (tbL nmL 86) (86 : Int32).toNatClampNeg (29811 : Int64)))))]) H := hP
  have hD : va_D A ([(x0, .inr (6, fs)), (q, .inl (cq, 91, .inr (.inl (vp_updL (tbL nmL 86) (86 : Int32).toNatClampNeg (29811 : Int64)))))]) := hD
  rw [tbL_s (L := nmL) (k := 86) (i := (86 : Int32)) (v := (29811 : Int64)) rfl rfl] at hP hD
  refine lv_dup hx hb d_D_init_612 rfl ?_
  refine lv_bipush (v := (87 : Int32)) hx hb d_D_init_613 (by decide) ?_
  refine lv_ldc2 (v := (6452339 : Int64)) hx hb hown (ht _ zw_846) d_D_init_615 ?_
  refine va_last hx hb hK hP hD hS 1 0 rfl rfl (by unfold vp_in; decide) d_D_init_618 (fun H locs hP hD hS => ?_)
  have hP : va_P D vwCl ([(x0, .inr (6, fs)), (q, .inl (cq, 91, .inr (.inl (vp_updL (tbL nmL 87) (87 : Int32).toNatClampNeg (6452339 : Int64)))))]) H := hP
  have hD : va_D A ([(x0, .inr (6, fs)), (q, .inl (cq, 91, .inr (.inl (vp_updL (tbL nmL 87) (87 : Int32).toNatClampNeg (6452339 : Int64)))))]) := hD
  rw [tbL_s (L := nmL) (k := 87) (i := (87 : Int32)) (v := (6452339 : Int64)) rfl rfl] at hP hD
  refine lv_dup hx hb d_D_init_619 rfl ?_
  refine lv_bipush (v := (88 : Int32)) hx hb d_D_init_620 (by decide) ?_
  refine lv_ldc2 (v := (6845555 : Int64)) hx hb hown (ht _ zw_847) d_D_init_622 ?_
  refine va_last hx hb hK hP hD hS 1 0 rfl rfl (by unfold vp_in; decide) d_D_init_625 (fun H locs hP hD hS => ?_)
  have hP : va_P D vwCl ([(x0, .inr (6, fs)), (q, .inl (cq, 91, .inr (.inl (vp_updL (tbL nmL 88) (88 : Int32).toNatClampNeg (6845555 : Int64)))))]) H := hP
  have hD : va_D A ([(x0, .inr (6, fs)), (q, .inl (cq, 91, .inr (.inl (vp_updL (tbL nmL 88) (88 : Int32).toNatClampNeg (6845555 : Int64)))))]) := hD
  rw [tbL_s (L := nmL) (k := 88) (i := (88 : Int32)) (v := (6845555 : Int64)) rfl rfl] at hP hD
  refine lv_dup hx hb d_D_init_626 rfl ?_
  refine lv_bipush (v := (89 : Int32)) hx hb d_D_init_627 (by decide) ?_
  refine lv_ldc2 (v := (6583411 : Int64)) hx hb hown (ht _ zw_848) d_D_init_629 ?_
  refine va_last hx hb hK hP hD hS 1 0 rfl rfl (by unfold vp_in; decide) d_D_init_632 (fun H locs hP hD hS => ?_)
  have hP : va_P D vwCl ([(x0, .inr (6, fs)), (q, .inl (cq, 91, .inr (.inl (vp_updL (tbL nmL 89) (89 : Int32).toNatClampNeg (6583411 : Int64)))))]) H := hP
  have hD : va_D A ([(x0, .inr (6, fs)), (q, .inl (cq, 91, .inr (.inl (vp_updL (tbL nmL 89) (89 : Int32).toNatClampNeg (6583411 : Int64)))))]) := hD
  rw [tbL_s (L := nmL) (k := 89) (i := (89 : Int32)) (v := (6583411 : Int64)) rfl rfl] at hP hD
  refine lv_dup hx hb d_D_init_633 rfl ?_
  refine lv_bipush (v := (90 : Int32)) hx hb d_D_init_634 (by decide) ?_
  refine lv_ldc2 (v := (7368558 : Int64)) hx hb hown (ht _ zw_849) d_D_init_636 ?_
  refine va_last hx hb hK hP hD hS 1 0 rfl rfl (by unfold vp_in; decide) d_D_init_639 (fun H locs hP hD hS => ?_)
  have hP : va_P D vwCl ([(x0, .inr (6, fs)), (q, .inl (cq, 91, .inr (.inl (vp_updL (tbL nmL 90) (90 : Int32).toNatClampNeg (7368558 : Int64)))))]) H := hP
  have hD : va_D A ([(x0, .inr (6, fs)), (q, .inl (cq, 91, .inr (.inl (vp_updL (tbL nmL 90) (90 : Int32).toNatClampNeg (7368558 : Int64)))))]) := hD
  rw [tbL_s (L := nmL) (k := 90) (i := (90 : Int32)) (v := (7368558 : Int64)) rfl rfl] at hP hD
  exact kk H locs hP hD hS
set_option maxHeartbeats 4000000 in
set_option maxRecDepth 100000 in
theorem ch_D_init_648 {p : Program} {l : Launch} {e : Env} {R : Room} {s : State} {m : MethodId} {args : Array Value} {below : List Frame} {meth : Method} {c : Code} {H : Heap} {locs : List Loc} {cells slots : Nat} {Q : State → Prop} {ls : Array Slot} {D : va_G} {A : Nat → Prop} {fs : List Value} {x0 : Nat} {x1 : Nat} {c1 : ClassId} {f1 : Nat → Int64} {q : Nat} {cq : ClassId} {rest : List Value} (hx : p.tables.exec = Jvm.exec) (hb : c.code = c_D_init) (hown : s.vm.findClass "WindowMachineModel" = some m.cls) (ht : ∀ w9 ∈ zT, w9.before args s = true) (hK : va_K D vwCl [(c1, .long), (cq, .int)] s) (hP : va_P D vwCl [(x0, .inr (6, fs)), (x1, .inl (c1, 91, .inr (.inl f1))), (q, .inl (cq, 91, .inl (tbI fmL 0)))] H) (hD : va_D A [(x0, .inr (6, fs)), (x1, .inl (c1, 91, .inr (.inl f1))), (q, .inl (cq, 91, .inl (tbI fmL 0)))]) (hS : va_S A s.heap H locs)
    (kk : ∀ (H : Heap) (locs : List Loc), va_P D vwCl [(x0, .inr (6, fs)), (x1, .inl (c1, 91, .inr (.inl f1))), (q, .inl (cq, 91, .inl (tbI fmL 13)))] H → va_D A [(x0, .inr (6, fs)), (x1, .inl (c1, 91, .inr (.inl f1))), (q, .inl (cq, 91, .inl (tbI fmL 13)))] → va_S A s.heap H locs → W p l e R s m args below meth c H locs cells slots Q (F0 m 707 ls (.ref q :: rest))) : W p l e R s m args below meth c H locs cells slots Q (F0 m 648 ls (.ref q :: rest)) := by
  refine lv_dup hx hb d_D_init_648 rfl ?_
  refine lv_iconst (v := (0 : Int32)) hx hb d_D_init_649 (by decide) ?_
  refine lv_iconst (v := (0 : Int32)) hx hb d_D_init_650 (by decide) ?_
  refine va_iast hx hb hK hP hD hS 2 1 rfl rfl (by unfold vp_in; decide) d_D_init_651 (fun H locs hP hD hS => ?_)
  have hP : va_P D vwCl ([(x0, .inr (6, fs)), (x1, .inl (c1, 91, .inr (.inl f1))), (q, .inl (cq, 91, .inl (upd (tbI fmL 0) (0 : Int32).toNatClampNeg (0 : Int32))))]) H := hP
  have hD : va_D A ([(x0, .inr (6, fs)), (x1, .inl (c1, 91, .inr (.inl f1))), (q, .inl (cq, 91, .inl (upd (tbI fmL 0) (0 : Int32).toNatClampNeg (0 : Int32))))]) := hD
  rw [tbI_s (L := fmL) (k := 0) (i := (0 : Int32)) (v := (0 : Int32)) rfl rfl] at hP hD
  refine lv_dup hx hb d_D_init_652 rfl ?_
  refine lv_iconst (v := (1 : Int32)) hx hb d_D_init_653 (by decide) ?_
  refine lv_iconst (v := (0 : Int32)) hx hb d_D_init_654 (by decide) ?_
  refine va_iast hx hb hK hP hD hS 2 1 rfl rfl (by unfold vp_in; decide) d_D_init_655 (fun H locs hP hD hS => ?_)
  have hP : va_P D vwCl ([(x0, .inr (6, fs)), (x1, .inl (c1, 91, .inr (.inl f1))), (q, .inl (cq, 91, .inl (upd (tbI fmL 1) (1 : Int32).toNatClampNeg (0 : Int32))))]) H := hP
  have hD : va_D A ([(x0, .inr (6, fs)), (x1, .inl (c1, 91, .inr (.inl f1))), (q, .inl (cq, 91, .inl (upd (tbI fmL 1) (1 : Int32).toNatClampNeg (0 : Int32))))]) := hD
  rw [tbI_s (L := fmL) (k := 1) (i := (1 : Int32)) (v := (0 : Int32)) rfl rfl] at hP hD
  refine lv_dup hx hb d_D_init_656 rfl ?_
  refine lv_iconst (v := (2 : Int32)) hx hb d_D_init_657 (by decide) ?_
  refine lv_iconst (v := (0 : Int32)) hx hb d_D_init_658 (by decide) ?_
  refine va_iast hx hb hK hP hD hS 2 1 rfl rfl (by unfold vp_in; decide) d_D_init_659 (fun H locs hP hD hS => ?_)
  have hP : va_P D vwCl ([(x0, .inr (6, fs)), (x1, .inl (c1, 91, .inr (.inl f1))), (q, .inl (cq, 91, .inl (upd (tbI fmL 2) (2 : Int32).toNatClampNeg (0 : Int32))))]) H := hP
  have hD : va_D A ([(x0, .inr (6, fs)), (x1, .inl (c1, 91, .inr (.inl f1))), (q, .inl (cq, 91, .inl (upd (tbI fmL 2) (2 : Int32).toNatClampNeg (0 : Int32))))]) := hD
  rw [tbI_s (L := fmL) (k := 2) (i := (2 : Int32)) (v := (0 : Int32)) rfl rfl] at hP hD
  refine lv_dup hx hb d_D_init_660 rfl ?_
  refine lv_iconst (v := (3 : Int32)) hx hb d_D_init_661 (by decide) ?_
  refine lv_iconst (v := (0 : Int32)) hx hb d_D_init_662 (by decide) ?_
  refine va_iast hx hb hK hP hD hS 2 1 rfl rfl (by unfold vp_in; decide) d_D_init_663 (fun H locs hP hD hS => ?_)
  have hP : va_P D vwCl ([(x0, .inr (6, fs)), (x1, .inl (c1, 91, .inr (.inl f1))), (q, .inl (cq, 91, .inl (upd (tbI fmL 3) (3 : Int32).toNatClampNeg (0 : Int32))))]) H := hP
  have hD : va_D A ([(x0, .inr (6, fs)), (x1, .inl (c1, 91, .inr (.inl f1))), (q, .inl (cq, 91, .inl (upd (tbI fmL 3) (3 : Int32).toNatClampNeg (0 : Int32))))]) := hD
  rw [tbI_s (L := fmL) (k := 3) (i := (3 : Int32)) (v := (0 : Int32)) rfl rfl] at hP hD
  refine lv_dup hx hb d_D_init_664 rfl ?_
  refine lv_iconst (v := (4 : Int32)) hx hb d_D_init_665 (by decide) ?_
  refine lv_iconst (v := (0 : Int32)) hx hb d_D_init_666 (by decide) ?_
  refine va_iast hx hb hK hP hD hS 2 1 rfl rfl (by unfold vp_in; decide) d_D_init_667 (fun H locs hP hD hS => ?_)
  have hP : va_P D vwCl ([(x0, .inr (6, fs)), (x1, .inl (c1, 91, .inr (.inl f1))), (q, .inl (cq, 91, .inl (upd (tbI fmL 4) (4 : Int32).toNatClampNeg (0 : Int32))))]) H := hP
  have hD : va_D A ([(x0, .inr (6, fs)), (x1, .inl (c1, 91, .inr (.inl f1))), (q, .inl (cq, 91, .inl (upd (tbI fmL 4) (4 : Int32).toNatClampNeg (0 : Int32))))]) := hD
  rw [tbI_s (L := fmL) (k := 4) (i := (4 : Int32)) (v := (0 : Int32)) rfl rfl] at hP hD
  refine lv_dup hx hb d_D_init_668 rfl ?_
  refine lv_iconst (v := (5 : Int32)) hx hb d_D_init_669 (by decide) ?_
  refine lv_iconst (v := (0 : Int32)) hx hb d_D_init_670 (by decide) ?_
  refine va_iast hx hb hK hP hD hS 2 1 rfl rfl (by unfold vp_in; decide) d_D_init_671 (fun H locs hP hD hS => ?_)
  have hP : va_P D vwCl ([(x0, .inr (6, fs)), (x1, .inl (c1, 91, .inr (.inl f1))), (q, .inl (cq, 91, .inl (upd (tbI fmL 5) (5 : Int32).toNatClampNeg (0 : Int32))))]) H := hP
  have hD : va_D A ([(x0, .inr (6, fs)), (x1, .inl (c1, 91, .inr (.inl f1))), (q, .inl (cq, 91, .inl (upd (tbI fmL 5) (5 : Int32).toNatClampNeg (0 : Int32))))]) := hD
  rw [tbI_s (L := fmL) (k := 5) (i := (5 : Int32)) (v := (0 : Int32)) rfl rfl] at hP hD
  refine lv_dup hx hb d_D_init_672 rfl ?_
  refine lv_bipush (v := (6 : Int32)) hx hb d_D_init_673 (by decide) ?_
  refine lv_iconst (v := (0 : Int32)) hx hb d_D_init_675 (by decide) ?_
  refine va_iast hx hb hK hP hD hS 2 1 rfl rfl (by unfold vp_in; decide) d_D_init_676 (fun H locs hP hD hS => ?_)
  have hP : va_P D vwCl ([(x0, .inr (6, fs)), (x1, .inl (c1, 91, .inr (.inl f1))), (q, .inl (cq, 91, .inl (upd (tbI fmL 6) (6 : Int32).toNatClampNeg (0 : Int32))))]) H := hP
  have hD : va_D A ([(x0, .inr (6, fs)), (x1, .inl (c1, 91, .inr (.inl f1))), (q, .inl (cq, 91, .inl (upd (tbI fmL 6) (6 : Int32).toNatClampNeg (0 : Int32))))]) := hD
  rw [tbI_s (L := fmL) (k := 6) (i := (6 : Int32)) (v := (0 : Int32)) rfl rfl] at hP hD
  refine lv_dup hx hb d_D_init_677 rfl ?_
  refine lv_bipush (v := (7 : Int32)) hx hb d_D_init_678 (by decide) ?_
  refine lv_iconst (v := (0 : Int32)) hx hb d_D_init_680 (by decide) ?_
  refine va_iast hx hb hK hP hD hS 2 1 rfl rfl (by unfold vp_in; decide) d_D_init_681 (fun H locs hP hD hS => ?_)
  have hP : va_P D vwCl ([(x0, .inr (6, fs)), (x1, .inl (c1, 91, .inr (.inl f1))), (q, .inl (cq, 91, .inl (upd (tbI fmL 7) (7 : Int32).toNatClampNeg (0 : Int32))))]) H := hP
  have hD : va_D A ([(x0, .inr (6, fs)), (x1, .inl (c1, 91, .inr (.inl f1))), (q, .inl (cq, 91, .inl (upd (tbI fmL 7) (7 : Int32).toNatClampNeg (0 : Int32))))]) := hD
  rw [tbI_s (L := fmL) (k := 7) (i := (7 : Int32)) (v := (0 : Int32)) rfl rfl] at hP hD
  refine lv_dup hx hb d_D_init_682 rfl ?_
  refine lv_bipush (v := (8 : Int32)) hx hb d_D_init_683 (by decide) ?_
  refine lv_iconst (v := (0 : Int32)) hx hb d_D_init_685 (by decide) ?_
  refine va_iast hx hb hK hP hD hS 2 1 rfl rfl (by unfold vp_in; decide) d_D_init_686 (fun H locs hP hD hS => ?_)
  have hP : va_P D vwCl ([(x0, .inr (6, fs)), (x1, .inl (c1, 91, .inr (.inl f1))), (q, .inl (cq, 91, .inl (upd (tbI fmL 8) (8 : Int32).toNatClampNeg (0 : Int32))))]) H := hP
  have hD : va_D A ([(x0, .inr (6, fs)), (x1, .inl (c1, 91, .inr (.inl f1))), (q, .inl (cq, 91, .inl (upd (tbI fmL 8) (8 : Int32).toNatClampNeg (0 : Int32))))]) := hD
  rw [tbI_s (L := fmL) (k := 8) (i := (8 : Int32)) (v := (0 : Int32)) rfl rfl] at hP hD
  refine lv_dup hx hb d_D_init_687 rfl ?_
  refine lv_bipush (v := (9 : Int32)) hx hb d_D_init_688 (by decide) ?_
  refine lv_iconst (v := (0 : Int32)) hx hb d_D_init_690 (by decide) ?_
  refine va_iast hx hb hK hP hD hS 2 1 rfl rfl (by unfold vp_in; decide) d_D_init_691 (fun H locs hP hD hS => ?_)
  have hP : va_P D vwCl ([(x0, .inr (6, fs)), (x1, .inl (c1, 91, .inr (.inl f1))), (q, .inl (cq, 91, .inl (upd (tbI fmL 9) (9 : Int32).toNatClampNeg (0 : Int32))))]) H := hP
  have hD : va_D A ([(x0, .inr (6, fs)), (x1, .inl (c1, 91, .inr (.inl f1))), (q, .inl (cq, 91, .inl (upd (tbI fmL 9) (9 : Int32).toNatClampNeg (0 : Int32))))]) := hD
  rw [tbI_s (L := fmL) (k := 9) (i := (9 : Int32)) (v := (0 : Int32)) rfl rfl] at hP hD
  refine lv_dup hx hb d_D_init_692 rfl ?_
  refine lv_bipush (v := (10 : Int32)) hx hb d_D_init_693 (by decide) ?_
  refine lv_iconst (v := (0 : Int32)) hx hb d_D_init_695 (by decide) ?_
  refine va_iast hx hb hK hP hD hS 2 1 rfl rfl (by unfold vp_in; decide) d_D_init_696 (fun H locs hP hD hS => ?_)
  have hP : va_P D vwCl ([(x0, .inr (6, fs)), (x1, .inl (c1, 91, .inr (.inl f1))), (q, .inl (cq, 91, .inl (upd (tbI fmL 10) (10 : Int32).toNatClampNeg (0 : Int32))))]) H := hP
  have hD : va_D A ([(x0, .inr (6, fs)), (x1, .inl (c1, 91, .inr (.inl f1))), (q, .inl (cq, 91, .inl (upd (tbI fmL 10) (10 : Int32).toNatClampNeg (0 : Int32))))]) := hD
  rw [tbI_s (L := fmL) (k := 10) (i := (10 : Int32)) (v := (0 : Int32)) rfl rfl] at hP hD
  refine lv_dup hx hb d_D_init_697 rfl ?_
  refine lv_bipush (v := (11 : Int32)) hx hb d_D_init_698 (by decide) ?_
  refine lv_iconst (v := (0 : Int32)) hx hb d_D_init_700 (by decide) ?_
  refine va_iast hx hb hK hP hD hS 2 1 rfl rfl (by unfold vp_in; decide) d_D_init_701 (fun H locs hP hD hS => ?_)
  have hP : va_P D vwCl ([(x0, .inr (6, fs)), (x1, .inl (c1, 91, .inr (.inl f1))), (q, .inl (cq, 91, .inl (upd (tbI fmL 11) (11 : Int32).toNatClampNeg (0 : Int32))))]) H := hP
  have hD : va_D A ([(x0, .inr (6, fs)), (x1, .inl (c1, 91, .inr (.inl f1))), (q, .inl (cq, 91, .inl (upd (tbI fmL 11) (11 : Int32).toNatClampNeg (0 : Int32))))]) := hD
  rw [tbI_s (L := fmL) (k := 11) (i := (11 : Int32)) (v := (0 : Int32)) rfl rfl] at hP hD
  refine lv_dup hx hb d_D_init_702 rfl ?_
  refine lv_bipush (v := (12 : Int32)) hx hb d_D_init_703 (by decide) ?_
  refine lv_iconst (v := (0 : Int32)) hx hb d_D_init_705 (by decide) ?_
  refine va_iast hx hb hK hP hD hS 2 1 rfl rfl (by unfold vp_in; decide) d_D_init_706 (fun H locs hP hD hS => ?_)
  have hP : va_P D vwCl ([(x0, .inr (6, fs)), (x1, .inl (c1, 91, .inr (.inl f1))), (q, .inl (cq, 91, .inl (upd (tbI fmL 12) (12 : Int32).toNatClampNeg (0 : Int32))))]) H := hP
  have hD : va_D A ([(x0, .inr (6, fs)), (x1, .inl (c1, 91, .inr (.inl f1))), (q, .inl (cq, 91, .inl (upd (tbI fmL 12) (12 : Int32).toNatClampNeg (0 : Int32))))]) := hD
  rw [tbI_s (L := fmL) (k := 12) (i := (12 : Int32)) (v := (0 : Int32)) rfl rfl] at hP hD
  exact kk H locs hP hD hS
set_option maxHeartbeats 4000000 in
set_option maxRecDepth 100000 in
theorem ch_D_init_707 {p : Program} {l : Launch} {e : Env} {R : Room} {s : State} {m : MethodId} {args : Array Value} {below : List Frame} {meth : Method} {c : Code} {H : Heap} {locs : List Loc} {cells slots : Nat} {Q : State → Prop} {ls : Array Slot} {D : va_G} {A : Nat → Prop} {fs : List Value} {x0 : Nat} {x1 : Nat} {c1 : ClassId} {f1 : Nat → Int64} {q : Nat} {cq : ClassId} {rest : List Value} (hx : p.tables.exec = Jvm.exec) (hb : c.code = c_D_init) (hown : s.vm.findClass "WindowMachineModel" = some m.cls) (ht : ∀ w9 ∈ zT, w9.before args s = true) (hK : va_K D vwCl [(c1, .long), (cq, .int)] s) (hP : va_P D vwCl [(x0, .inr (6, fs)), (x1, .inl (c1, 91, .inr (.inl f1))), (q, .inl (cq, 91, .inl (tbI fmL 13)))] H) (hD : va_D A [(x0, .inr (6, fs)), (x1, .inl (c1, 91, .inr (.inl f1))), (q, .inl (cq, 91, .inl (tbI fmL 13)))]) (hS : va_S A s.heap H locs)
    (kk : ∀ (H : Heap) (locs : List Loc), va_P D vwCl [(x0, .inr (6, fs)), (x1, .inl (c1, 91, .inr (.inl f1))), (q, .inl (cq, 91, .inl (tbI fmL 26)))] H → va_D A [(x0, .inr (6, fs)), (x1, .inl (c1, 91, .inr (.inl f1))), (q, .inl (cq, 91, .inl (tbI fmL 26)))] → va_S A s.heap H locs → W p l e R s m args below meth c H locs cells slots Q (F0 m 772 ls (.ref q :: rest))) : W p l e R s m args below meth c H locs cells slots Q (F0 m 707 ls (.ref q :: rest)) := by
  refine lv_dup hx hb d_D_init_707 rfl ?_
  refine lv_bipush (v := (13 : Int32)) hx hb d_D_init_708 (by decide) ?_
  refine lv_iconst (v := (0 : Int32)) hx hb d_D_init_710 (by decide) ?_
  refine va_iast hx hb hK hP hD hS 2 1 rfl rfl (by unfold vp_in; decide) d_D_init_711 (fun H locs hP hD hS => ?_)
  have hP : va_P D vwCl ([(x0, .inr (6, fs)), (x1, .inl (c1, 91, .inr (.inl f1))), (q, .inl (cq, 91, .inl (upd (tbI fmL 13) (13 : Int32).toNatClampNeg (0 : Int32))))]) H := hP
  have hD : va_D A ([(x0, .inr (6, fs)), (x1, .inl (c1, 91, .inr (.inl f1))), (q, .inl (cq, 91, .inl (upd (tbI fmL 13) (13 : Int32).toNatClampNeg (0 : Int32))))]) := hD
  rw [tbI_s (L := fmL) (k := 13) (i := (13 : Int32)) (v := (0 : Int32)) rfl rfl] at hP hD
  refine lv_dup hx hb d_D_init_712 rfl ?_
  refine lv_bipush (v := (14 : Int32)) hx hb d_D_init_713 (by decide) ?_
  refine lv_iconst (v := (0 : Int32)) hx hb d_D_init_715 (by decide) ?_
  refine va_iast hx hb hK hP hD hS 2 1 rfl rfl (by unfold vp_in; decide) d_D_init_716 (fun H locs hP hD hS => ?_)
  have hP : va_P D vwCl ([(x0, .inr (6, fs)), (x1, .inl (c1, 91, .inr (.inl f1))), (q, .inl (cq, 91, .inl (upd (tbI fmL 14) (14 : Int32).toNatClampNeg (0 : Int32))))]) H := hP
  have hD : va_D A ([(x0, .inr (6, fs)), (x1, .inl (c1, 91, .inr (.inl f1))), (q, .inl (cq, 91, .inl (upd (tbI fmL 14) (14 : Int32).toNatClampNeg (0 : Int32))))]) := hD
  rw [tbI_s (L := fmL) (k := 14) (i := (14 : Int32)) (v := (0 : Int32)) rfl rfl] at hP hD
  refine lv_dup hx hb d_D_init_717 rfl ?_
  refine lv_bipush (v := (15 : Int32)) hx hb d_D_init_718 (by decide) ?_
  refine lv_iconst (v := (0 : Int32)) hx hb d_D_init_720 (by decide) ?_
  refine va_iast hx hb hK hP hD hS 2 1 rfl rfl (by unfold vp_in; decide) d_D_init_721 (fun H locs hP hD hS => ?_)
  have hP : va_P D vwCl ([(x0, .inr (6, fs)), (x1, .inl (c1, 91, .inr (.inl f1))), (q, .inl (cq, 91, .inl (upd (tbI fmL 15) (15 : Int32).toNatClampNeg (0 : Int32))))]) H := hP
  have hD : va_D A ([(x0, .inr (6, fs)), (x1, .inl (c1, 91, .inr (.inl f1))), (q, .inl (cq, 91, .inl (upd (tbI fmL 15) (15 : Int32).toNatClampNeg (0 : Int32))))]) := hD
  rw [tbI_s (L := fmL) (k := 15) (i := (15 : Int32)) (v := (0 : Int32)) rfl rfl] at hP hD
  refine lv_dup hx hb d_D_init_722 rfl ?_
  refine lv_bipush (v := (16 : Int32)) hx hb d_D_init_723 (by decide) ?_
  refine lv_iconst (v := (0 : Int32)) hx hb d_D_init_725 (by decide) ?_
  refine va_iast hx hb hK hP hD hS 2 1 rfl rfl (by unfold vp_in; decide) d_D_init_726 (fun H locs hP hD hS => ?_)
  have hP : va_P D vwCl ([(x0, .inr (6, fs)), (x1, .inl (c1, 91, .inr (.inl f1))), (q, .inl (cq, 91, .inl (upd (tbI fmL 16) (16 : Int32).toNatClampNeg (0 : Int32))))]) H := hP
  have hD : va_D A ([(x0, .inr (6, fs)), (x1, .inl (c1, 91, .inr (.inl f1))), (q, .inl (cq, 91, .inl (upd (tbI fmL 16) (16 : Int32).toNatClampNeg (0 : Int32))))]) := hD
  rw [tbI_s (L := fmL) (k := 16) (i := (16 : Int32)) (v := (0 : Int32)) rfl rfl] at hP hD
  refine lv_dup hx hb d_D_init_727 rfl ?_
  refine lv_bipush (v := (17 : Int32)) hx hb d_D_init_728 (by decide) ?_
  refine lv_iconst (v := (0 : Int32)) hx hb d_D_init_730 (by decide) ?_
  refine va_iast hx hb hK hP hD hS 2 1 rfl rfl (by unfold vp_in; decide) d_D_init_731 (fun H locs hP hD hS => ?_)
  have hP : va_P D vwCl ([(x0, .inr (6, fs)), (x1, .inl (c1, 91, .inr (.inl f1))), (q, .inl (cq, 91, .inl (upd (tbI fmL 17) (17 : Int32).toNatClampNeg (0 : Int32))))]) H := hP
  have hD : va_D A ([(x0, .inr (6, fs)), (x1, .inl (c1, 91, .inr (.inl f1))), (q, .inl (cq, 91, .inl (upd (tbI fmL 17) (17 : Int32).toNatClampNeg (0 : Int32))))]) := hD
  rw [tbI_s (L := fmL) (k := 17) (i := (17 : Int32)) (v := (0 : Int32)) rfl rfl] at hP hD
  refine lv_dup hx hb d_D_init_732 rfl ?_
  refine lv_bipush (v := (18 : Int32)) hx hb d_D_init_733 (by decide) ?_
  refine lv_iconst (v := (0 : Int32)) hx hb d_D_init_735 (by decide) ?_
  refine va_iast hx hb hK hP hD hS 2 1 rfl rfl (by unfold vp_in; decide) d_D_init_736 (fun H locs hP hD hS => ?_)
  have hP : va_P D vwCl ([(x0, .inr (6, fs)), (x1, .inl (c1, 91, .inr (.inl f1))), (q, .inl (cq, 91, .inl (upd (tbI fmL 18) (18 : Int32).toNatClampNeg (0 : Int32))))]) H := hP
  have hD : va_D A ([(x0, .inr (6, fs)), (x1, .inl (c1, 91, .inr (.inl f1))), (q, .inl (cq, 91, .inl (upd (tbI fmL 18) (18 : Int32).toNatClampNeg (0 : Int32))))]) := hD
  rw [tbI_s (L := fmL) (k := 18) (i := (18 : Int32)) (v := (0 : Int32)) rfl rfl] at hP hD
  refine lv_dup hx hb d_D_init_737 rfl ?_
  refine lv_bipush (v := (19 : Int32)) hx hb d_D_init_738 (by decide) ?_
  refine lv_iconst (v := (0 : Int32)) hx hb d_D_init_740 (by decide) ?_
  refine va_iast hx hb hK hP hD hS 2 1 rfl rfl (by unfold vp_in; decide) d_D_init_741 (fun H locs hP hD hS => ?_)
  have hP : va_P D vwCl ([(x0, .inr (6, fs)), (x1, .inl (c1, 91, .inr (.inl f1))), (q, .inl (cq, 91, .inl (upd (tbI fmL 19) (19 : Int32).toNatClampNeg (0 : Int32))))]) H := hP
  have hD : va_D A ([(x0, .inr (6, fs)), (x1, .inl (c1, 91, .inr (.inl f1))), (q, .inl (cq, 91, .inl (upd (tbI fmL 19) (19 : Int32).toNatClampNeg (0 : Int32))))]) := hD
  rw [tbI_s (L := fmL) (k := 19) (i := (19 : Int32)) (v := (0 : Int32)) rfl rfl] at hP hD
  refine lv_dup hx hb d_D_init_742 rfl ?_
  refine lv_bipush (v := (20 : Int32)) hx hb d_D_init_743 (by decide) ?_
  refine lv_iconst (v := (0 : Int32)) hx hb d_D_init_745 (by decide) ?_
  refine va_iast hx hb hK hP hD hS 2 1 rfl rfl (by unfold vp_in; decide) d_D_init_746 (fun H locs hP hD hS => ?_)
  have hP : va_P D vwCl ([(x0, .inr (6, fs)), (x1, .inl (c1, 91, .inr (.inl f1))), (q, .inl (cq, 91, .inl (upd (tbI fmL 20) (20 : Int32).toNatClampNeg (0 : Int32))))]) H := hP
  have hD : va_D A ([(x0, .inr (6, fs)), (x1, .inl (c1, 91, .inr (.inl f1))), (q, .inl (cq, 91, .inl (upd (tbI fmL 20) (20 : Int32).toNatClampNeg (0 : Int32))))]) := hD
  rw [tbI_s (L := fmL) (k := 20) (i := (20 : Int32)) (v := (0 : Int32)) rfl rfl] at hP hD
  refine lv_dup hx hb d_D_init_747 rfl ?_
  refine lv_bipush (v := (21 : Int32)) hx hb d_D_init_748 (by decide) ?_
  refine lv_iconst (v := (0 : Int32)) hx hb d_D_init_750 (by decide) ?_
  refine va_iast hx hb hK hP hD hS 2 1 rfl rfl (by unfold vp_in; decide) d_D_init_751 (fun H locs hP hD hS => ?_)
  have hP : va_P D vwCl ([(x0, .inr (6, fs)), (x1, .inl (c1, 91, .inr (.inl f1))), (q, .inl (cq, 91, .inl (upd (tbI fmL 21) (21 : Int32).toNatClampNeg (0 : Int32))))]) H := hP
  have hD : va_D A ([(x0, .inr (6, fs)), (x1, .inl (c1, 91, .inr (.inl f1))), (q, .inl (cq, 91, .inl (upd (tbI fmL 21) (21 : Int32).toNatClampNeg (0 : Int32))))]) := hD
  rw [tbI_s (L := fmL) (k := 21) (i := (21 : Int32)) (v := (0 : Int32)) rfl rfl] at hP hD
  refine lv_dup hx hb d_D_init_752 rfl ?_
  refine lv_bipush (v := (22 : Int32)) hx hb d_D_init_753 (by decide) ?_
  refine lv_iconst (v := (0 : Int32)) hx hb d_D_init_755 (by decide) ?_
  refine va_iast hx hb hK hP hD hS 2 1 rfl rfl (by unfold vp_in; decide) d_D_init_756 (fun H locs hP hD hS => ?_)
  have hP : va_P D vwCl ([(x0, .inr (6, fs)), (x1, .inl (c1, 91, .inr (.inl f1))), (q, .inl (cq, 91, .inl (upd (tbI fmL 22) (22 : Int32).toNatClampNeg (0 : Int32))))]) H := hP
  have hD : va_D A ([(x0, .inr (6, fs)), (x1, .inl (c1, 91, .inr (.inl f1))), (q, .inl (cq, 91, .inl (upd (tbI fmL 22) (22 : Int32).toNatClampNeg (0 : Int32))))]) := hD
  rw [tbI_s (L := fmL) (k := 22) (i := (22 : Int32)) (v := (0 : Int32)) rfl rfl] at hP hD
  refine lv_dup hx hb d_D_init_757 rfl ?_
  refine lv_bipush (v := (23 : Int32)) hx hb d_D_init_758 (by decide) ?_
  refine lv_iconst (v := (0 : Int32)) hx hb d_D_init_760 (by decide) ?_
  refine va_iast hx hb hK hP hD hS 2 1 rfl rfl (by unfold vp_in; decide) d_D_init_761 (fun H locs hP hD hS => ?_)
  have hP : va_P D vwCl ([(x0, .inr (6, fs)), (x1, .inl (c1, 91, .inr (.inl f1))), (q, .inl (cq, 91, .inl (upd (tbI fmL 23) (23 : Int32).toNatClampNeg (0 : Int32))))]) H := hP
  have hD : va_D A ([(x0, .inr (6, fs)), (x1, .inl (c1, 91, .inr (.inl f1))), (q, .inl (cq, 91, .inl (upd (tbI fmL 23) (23 : Int32).toNatClampNeg (0 : Int32))))]) := hD
  rw [tbI_s (L := fmL) (k := 23) (i := (23 : Int32)) (v := (0 : Int32)) rfl rfl] at hP hD
  refine lv_dup hx hb d_D_init_762 rfl ?_
  refine lv_bipush (v := (24 : Int32)) hx hb d_D_init_763 (by decide) ?_
  refine lv_iconst (v := (0 : Int32)) hx hb d_D_init_765 (by decide) ?_
  refine va_iast hx hb hK hP hD hS 2 1 rfl rfl (by unfold vp_in; decide) d_D_init_766 (fun H locs hP hD hS => ?_)
  have hP : va_P D vwCl ([(x0, .inr (6, fs)), (x1, .inl (c1, 91, .inr (.inl f1))), (q, .inl (cq, 91, .inl (upd (tbI fmL 24) (24 : Int32).toNatClampNeg (0 : Int32))))]) H := hP
  have hD : va_D A ([(x0, .inr (6, fs)), (x1, .inl (c1, 91, .inr (.inl f1))), (q, .inl (cq, 91, .inl (upd (tbI fmL 24) (24 : Int32).toNatClampNeg (0 : Int32))))]) := hD
  rw [tbI_s (L := fmL) (k := 24) (i := (24 : Int32)) (v := (0 : Int32)) rfl rfl] at hP hD
  refine lv_dup hx hb d_D_init_767 rfl ?_
  refine lv_bipush (v := (25 : Int32)) hx hb d_D_init_768 (by decide) ?_
  refine lv_iconst (v := (0 : Int32)) hx hb d_D_init_770 (by decide) ?_
  refine va_iast hx hb hK hP hD hS 2 1 rfl rfl (by unfold vp_in; decide) d_D_init_771 (fun H locs hP hD hS => ?_)
  have hP : va_P D vwCl ([(x0, .inr (6, fs)), (x1, .inl (c1, 91, .inr (.inl f1))), (q, .inl (cq, 91, .inl (upd (tbI fmL 25) (25 : Int32).toNatClampNeg (0 : Int32))))]) H := hP
  have hD : va_D A ([(x0, .inr (6, fs)), (x1, .inl (c1, 91, .inr (.inl f1))), (q, .inl (cq, 91, .inl (upd (tbI fmL 25) (25 : Int32).toNatClampNeg (0 : Int32))))]) := hD
  rw [tbI_s (L := fmL) (k := 25) (i := (25 : Int32)) (v := (0 : Int32)) rfl rfl] at hP hD
  exact kk H locs hP hD hS
set_option maxHeartbeats 4000000 in
set_option maxRecDepth 100000 in
theorem ch_D_init_772 {p : Program} {l : Launch} {e : Env} {R : Room} {s : State} {m : MethodId} {args : Array Value} {below : List Frame} {meth : Method} {c : Code} {H : Heap} {locs : List Loc} {cells slots : Nat} {Q : State → Prop} {ls : Array Slot} {D : va_G} {A : Nat → Prop} {fs : List Value} {x0 : Nat} {x1 : Nat} {c1 : ClassId} {f1 : Nat → Int64} {q : Nat} {cq : ClassId} {rest : List Value} (hx : p.tables.exec = Jvm.exec) (hb : c.code = c_D_init) (hown : s.vm.findClass "WindowMachineModel" = some m.cls) (ht : ∀ w9 ∈ zT, w9.before args s = true) (hK : va_K D vwCl [(c1, .long), (cq, .int)] s) (hP : va_P D vwCl [(x0, .inr (6, fs)), (x1, .inl (c1, 91, .inr (.inl f1))), (q, .inl (cq, 91, .inl (tbI fmL 26)))] H) (hD : va_D A [(x0, .inr (6, fs)), (x1, .inl (c1, 91, .inr (.inl f1))), (q, .inl (cq, 91, .inl (tbI fmL 26)))]) (hS : va_S A s.heap H locs)
    (kk : ∀ (H : Heap) (locs : List Loc), va_P D vwCl [(x0, .inr (6, fs)), (x1, .inl (c1, 91, .inr (.inl f1))), (q, .inl (cq, 91, .inl (tbI fmL 39)))] H → va_D A [(x0, .inr (6, fs)), (x1, .inl (c1, 91, .inr (.inl f1))), (q, .inl (cq, 91, .inl (tbI fmL 39)))] → va_S A s.heap H locs → W p l e R s m args below meth c H locs cells slots Q (F0 m 837 ls (.ref q :: rest))) : W p l e R s m args below meth c H locs cells slots Q (F0 m 772 ls (.ref q :: rest)) := by
  refine lv_dup hx hb d_D_init_772 rfl ?_
  refine lv_bipush (v := (26 : Int32)) hx hb d_D_init_773 (by decide) ?_
  refine lv_iconst (v := (0 : Int32)) hx hb d_D_init_775 (by decide) ?_
  refine va_iast hx hb hK hP hD hS 2 1 rfl rfl (by unfold vp_in; decide) d_D_init_776 (fun H locs hP hD hS => ?_)
  have hP : va_P D vwCl ([(x0, .inr (6, fs)), (x1, .inl (c1, 91, .inr (.inl f1))), (q, .inl (cq, 91, .inl (upd (tbI fmL 26) (26 : Int32).toNatClampNeg (0 : Int32))))]) H := hP
  have hD : va_D A ([(x0, .inr (6, fs)), (x1, .inl (c1, 91, .inr (.inl f1))), (q, .inl (cq, 91, .inl (upd (tbI fmL 26) (26 : Int32).toNatClampNeg (0 : Int32))))]) := hD
  rw [tbI_s (L := fmL) (k := 26) (i := (26 : Int32)) (v := (0 : Int32)) rfl rfl] at hP hD
  refine lv_dup hx hb d_D_init_777 rfl ?_
  refine lv_bipush (v := (27 : Int32)) hx hb d_D_init_778 (by decide) ?_
  refine lv_iconst (v := (0 : Int32)) hx hb d_D_init_780 (by decide) ?_
  refine va_iast hx hb hK hP hD hS 2 1 rfl rfl (by unfold vp_in; decide) d_D_init_781 (fun H locs hP hD hS => ?_)
  have hP : va_P D vwCl ([(x0, .inr (6, fs)), (x1, .inl (c1, 91, .inr (.inl f1))), (q, .inl (cq, 91, .inl (upd (tbI fmL 27) (27 : Int32).toNatClampNeg (0 : Int32))))]) H := hP
  have hD : va_D A ([(x0, .inr (6, fs)), (x1, .inl (c1, 91, .inr (.inl f1))), (q, .inl (cq, 91, .inl (upd (tbI fmL 27) (27 : Int32).toNatClampNeg (0 : Int32))))]) := hD
  rw [tbI_s (L := fmL) (k := 27) (i := (27 : Int32)) (v := (0 : Int32)) rfl rfl] at hP hD
  refine lv_dup hx hb d_D_init_782 rfl ?_
  refine lv_bipush (v := (28 : Int32)) hx hb d_D_init_783 (by decide) ?_
  refine lv_iconst (v := (0 : Int32)) hx hb d_D_init_785 (by decide) ?_
  refine va_iast hx hb hK hP hD hS 2 1 rfl rfl (by unfold vp_in; decide) d_D_init_786 (fun H locs hP hD hS => ?_)
  have hP : va_P D vwCl ([(x0, .inr (6, fs)), (x1, .inl (c1, 91, .inr (.inl f1))), (q, .inl (cq, 91, .inl (upd (tbI fmL 28) (28 : Int32).toNatClampNeg (0 : Int32))))]) H := hP
  have hD : va_D A ([(x0, .inr (6, fs)), (x1, .inl (c1, 91, .inr (.inl f1))), (q, .inl (cq, 91, .inl (upd (tbI fmL 28) (28 : Int32).toNatClampNeg (0 : Int32))))]) := hD
  rw [tbI_s (L := fmL) (k := 28) (i := (28 : Int32)) (v := (0 : Int32)) rfl rfl] at hP hD
  refine lv_dup hx hb d_D_init_787 rfl ?_
  refine lv_bipush (v := (29 : Int32)) hx hb d_D_init_788 (by decide) ?_
  refine lv_iconst (v := (0 : Int32)) hx hb d_D_init_790 (by decide) ?_
  refine va_iast hx hb hK hP hD hS 2 1 rfl rfl (by unfold vp_in; decide) d_D_init_791 (fun H locs hP hD hS => ?_)
  have hP : va_P D vwCl ([(x0, .inr (6, fs)), (x1, .inl (c1, 91, .inr (.inl f1))), (q, .inl (cq, 91, .inl (upd (tbI fmL 29) (29 : Int32).toNatClampNeg (0 : Int32))))]) H := hP
  have hD : va_D A ([(x0, .inr (6, fs)), (x1, .inl (c1, 91, .inr (.inl f1))), (q, .inl (cq, 91, .inl (upd (tbI fmL 29) (29 : Int32).toNatClampNeg (0 : Int32))))]) := hD
  rw [tbI_s (L := fmL) (k := 29) (i := (29 : Int32)) (v := (0 : Int32)) rfl rfl] at hP hD
  refine lv_dup hx hb d_D_init_792 rfl ?_
  refine lv_bipush (v := (30 : Int32)) hx hb d_D_init_793 (by decide) ?_
  refine lv_iconst (v := (0 : Int32)) hx hb d_D_init_795 (by decide) ?_
  refine va_iast hx hb hK hP hD hS 2 1 rfl rfl (by unfold vp_in; decide) d_D_init_796 (fun H locs hP hD hS => ?_)
  have hP : va_P D vwCl ([(x0, .inr (6, fs)), (x1, .inl (c1, 91, .inr (.inl f1))), (q, .inl (cq, 91, .inl (upd (tbI fmL 30) (30 : Int32).toNatClampNeg (0 : Int32))))]) H := hP
  have hD : va_D A ([(x0, .inr (6, fs)), (x1, .inl (c1, 91, .inr (.inl f1))), (q, .inl (cq, 91, .inl (upd (tbI fmL 30) (30 : Int32).toNatClampNeg (0 : Int32))))]) := hD
  rw [tbI_s (L := fmL) (k := 30) (i := (30 : Int32)) (v := (0 : Int32)) rfl rfl] at hP hD
  refine lv_dup hx hb d_D_init_797 rfl ?_
  refine lv_bipush (v := (31 : Int32)) hx hb d_D_init_798 (by decide) ?_
  refine lv_iconst (v := (0 : Int32)) hx hb d_D_init_800 (by decide) ?_
  refine va_iast hx hb hK hP hD hS 2 1 rfl rfl (by unfold vp_in; decide) d_D_init_801 (fun H locs hP hD hS => ?_)
  have hP : va_P D vwCl ([(x0, .inr (6, fs)), (x1, .inl (c1, 91, .inr (.inl f1))), (q, .inl (cq, 91, .inl (upd (tbI fmL 31) (31 : Int32).toNatClampNeg (0 : Int32))))]) H := hP
  have hD : va_D A ([(x0, .inr (6, fs)), (x1, .inl (c1, 91, .inr (.inl f1))), (q, .inl (cq, 91, .inl (upd (tbI fmL 31) (31 : Int32).toNatClampNeg (0 : Int32))))]) := hD
  rw [tbI_s (L := fmL) (k := 31) (i := (31 : Int32)) (v := (0 : Int32)) rfl rfl] at hP hD
  refine lv_dup hx hb d_D_init_802 rfl ?_
  refine lv_bipush (v := (32 : Int32)) hx hb d_D_init_803 (by decide) ?_
  refine lv_iconst (v := (0 : Int32)) hx hb d_D_init_805 (by decide) ?_
  refine va_iast hx hb hK hP hD hS 2 1 rfl rfl (by unfold vp_in; decide) d_D_init_806 (fun H locs hP hD hS => ?_)
  have hP : va_P D vwCl ([(x0, .inr (6, fs)), (x1, .inl (c1, 91, .inr (.inl f1))), (q, .inl (cq, 91, .inl (upd (tbI fmL 32) (32 : Int32).toNatClampNeg (0 : Int32))))]) H := hP
  have hD : va_D A ([(x0, .inr (6, fs)), (x1, .inl (c1, 91, .inr (.inl f1))), (q, .inl (cq, 91, .inl (upd (tbI fmL 32) (32 : Int32).toNatClampNeg (0 : Int32))))]) := hD
  rw [tbI_s (L := fmL) (k := 32) (i := (32 : Int32)) (v := (0 : Int32)) rfl rfl] at hP hD
  refine lv_dup hx hb d_D_init_807 rfl ?_
  refine lv_bipush (v := (33 : Int32)) hx hb d_D_init_808 (by decide) ?_
  refine lv_iconst (v := (0 : Int32)) hx hb d_D_init_810 (by decide) ?_
  refine va_iast hx hb hK hP hD hS 2 1 rfl rfl (by unfold vp_in; decide) d_D_init_811 (fun H locs hP hD hS => ?_)
  have hP : va_P D vwCl ([(x0, .inr (6, fs)), (x1, .inl (c1, 91, .inr (.inl f1))), (q, .inl (cq, 91, .inl (upd (tbI fmL 33) (33 : Int32).toNatClampNeg (0 : Int32))))]) H := hP
  have hD : va_D A ([(x0, .inr (6, fs)), (x1, .inl (c1, 91, .inr (.inl f1))), (q, .inl (cq, 91, .inl (upd (tbI fmL 33) (33 : Int32).toNatClampNeg (0 : Int32))))]) := hD
  rw [tbI_s (L := fmL) (k := 33) (i := (33 : Int32)) (v := (0 : Int32)) rfl rfl] at hP hD
  refine lv_dup hx hb d_D_init_812 rfl ?_
  refine lv_bipush (v := (34 : Int32)) hx hb d_D_init_813 (by decide) ?_
  refine lv_iconst (v := (0 : Int32)) hx hb d_D_init_815 (by decide) ?_
  refine va_iast hx hb hK hP hD hS 2 1 rfl rfl (by unfold vp_in; decide) d_D_init_816 (fun H locs hP hD hS => ?_)
  have hP : va_P D vwCl ([(x0, .inr (6, fs)), (x1, .inl (c1, 91, .inr (.inl f1))), (q, .inl (cq, 91, .inl (upd (tbI fmL 34) (34 : Int32).toNatClampNeg (0 : Int32))))]) H := hP
  have hD : va_D A ([(x0, .inr (6, fs)), (x1, .inl (c1, 91, .inr (.inl f1))), (q, .inl (cq, 91, .inl (upd (tbI fmL 34) (34 : Int32).toNatClampNeg (0 : Int32))))]) := hD
  rw [tbI_s (L := fmL) (k := 34) (i := (34 : Int32)) (v := (0 : Int32)) rfl rfl] at hP hD
  refine lv_dup hx hb d_D_init_817 rfl ?_
  refine lv_bipush (v := (35 : Int32)) hx hb d_D_init_818 (by decide) ?_
  refine lv_iconst (v := (1 : Int32)) hx hb d_D_init_820 (by decide) ?_
  refine va_iast hx hb hK hP hD hS 2 1 rfl rfl (by unfold vp_in; decide) d_D_init_821 (fun H locs hP hD hS => ?_)
  have hP : va_P D vwCl ([(x0, .inr (6, fs)), (x1, .inl (c1, 91, .inr (.inl f1))), (q, .inl (cq, 91, .inl (upd (tbI fmL 35) (35 : Int32).toNatClampNeg (1 : Int32))))]) H := hP
  have hD : va_D A ([(x0, .inr (6, fs)), (x1, .inl (c1, 91, .inr (.inl f1))), (q, .inl (cq, 91, .inl (upd (tbI fmL 35) (35 : Int32).toNatClampNeg (1 : Int32))))]) := hD
  rw [tbI_s (L := fmL) (k := 35) (i := (35 : Int32)) (v := (1 : Int32)) rfl rfl] at hP hD
  refine lv_dup hx hb d_D_init_822 rfl ?_
  refine lv_bipush (v := (36 : Int32)) hx hb d_D_init_823 (by decide) ?_
  refine lv_iconst (v := (2 : Int32)) hx hb d_D_init_825 (by decide) ?_
  refine va_iast hx hb hK hP hD hS 2 1 rfl rfl (by unfold vp_in; decide) d_D_init_826 (fun H locs hP hD hS => ?_)
  have hP : va_P D vwCl ([(x0, .inr (6, fs)), (x1, .inl (c1, 91, .inr (.inl f1))), (q, .inl (cq, 91, .inl (upd (tbI fmL 36) (36 : Int32).toNatClampNeg (2 : Int32))))]) H := hP
  have hD : va_D A ([(x0, .inr (6, fs)), (x1, .inl (c1, 91, .inr (.inl f1))), (q, .inl (cq, 91, .inl (upd (tbI fmL 36) (36 : Int32).toNatClampNeg (2 : Int32))))]) := hD
  rw [tbI_s (L := fmL) (k := 36) (i := (36 : Int32)) (v := (2 : Int32)) rfl rfl] at hP hD
  refine lv_dup hx hb d_D_init_827 rfl ?_
  refine lv_bipush (v := (37 : Int32)) hx hb d_D_init_828 (by decide) ?_
  refine lv_iconst (v := (2 : Int32)) hx hb d_D_init_830 (by decide) ?_
  refine va_iast hx hb hK hP hD hS 2 1 rfl rfl (by unfold vp_in; decide) d_D_init_831 (fun H locs hP hD hS => ?_)
  have hP : va_P D vwCl ([(x0, .inr (6, fs)), (x1, .inl (c1, 91, .inr (.inl f1))), (q, .inl (cq, 91, .inl (upd (tbI fmL 37) (37 : Int32).toNatClampNeg (2 : Int32))))]) H := hP
  have hD : va_D A ([(x0, .inr (6, fs)), (x1, .inl (c1, 91, .inr (.inl f1))), (q, .inl (cq, 91, .inl (upd (tbI fmL 37) (37 : Int32).toNatClampNeg (2 : Int32))))]) := hD
  rw [tbI_s (L := fmL) (k := 37) (i := (37 : Int32)) (v := (2 : Int32)) rfl rfl] at hP hD
  refine lv_dup hx hb d_D_init_832 rfl ?_
  refine lv_bipush (v := (38 : Int32)) hx hb d_D_init_833 (by decide) ?_
  refine lv_iconst (v := (2 : Int32)) hx hb d_D_init_835 (by decide) ?_
  refine va_iast hx hb hK hP hD hS 2 1 rfl rfl (by unfold vp_in; decide) d_D_init_836 (fun H locs hP hD hS => ?_)
  have hP : va_P D vwCl ([(x0, .inr (6, fs)), (x1, .inl (c1, 91, .inr (.inl f1))), (q, .inl (cq, 91, .inl (upd (tbI fmL 38) (38 : Int32).toNatClampNeg (2 : Int32))))]) H := hP
  have hD : va_D A ([(x0, .inr (6, fs)), (x1, .inl (c1, 91, .inr (.inl f1))), (q, .inl (cq, 91, .inl (upd (tbI fmL 38) (38 : Int32).toNatClampNeg (2 : Int32))))]) := hD
  rw [tbI_s (L := fmL) (k := 38) (i := (38 : Int32)) (v := (2 : Int32)) rfl rfl] at hP hD
  exact kk H locs hP hD hS
set_option maxHeartbeats 4000000 in
set_option maxRecDepth 100000 in
theorem ch_D_init_837 {p : Program} {l : Launch} {e : Env} {R : Room} {s : State} {m : MethodId} {args : Array Value} {below : List Frame} {meth : Method} {c : Code} {H : Heap} {locs : List Loc} {cells slots : Nat} {Q : State → Prop} {ls : Array Slot} {D : va_G} {A : Nat → Prop} {fs : List Value} {x0 : Nat} {x1 : Nat} {c1 : ClassId} {f1 : Nat → Int64} {q : Nat} {cq : ClassId} {rest : List Value} (hx : p.tables.exec = Jvm.exec) (hb : c.code = c_D_init) (hown : s.vm.findClass "WindowMachineModel" = some m.cls) (ht : ∀ w9 ∈ zT, w9.before args s = true) (hK : va_K D vwCl [(c1, .long), (cq, .int)] s) (hP : va_P D vwCl [(x0, .inr (6, fs)), (x1, .inl (c1, 91, .inr (.inl f1))), (q, .inl (cq, 91, .inl (tbI fmL 39)))] H) (hD : va_D A [(x0, .inr (6, fs)), (x1, .inl (c1, 91, .inr (.inl f1))), (q, .inl (cq, 91, .inl (tbI fmL 39)))]) (hS : va_S A s.heap H locs)
    (kk : ∀ (H : Heap) (locs : List Loc), va_P D vwCl [(x0, .inr (6, fs)), (x1, .inl (c1, 91, .inr (.inl f1))), (q, .inl (cq, 91, .inl (tbI fmL 52)))] H → va_D A [(x0, .inr (6, fs)), (x1, .inl (c1, 91, .inr (.inl f1))), (q, .inl (cq, 91, .inl (tbI fmL 52)))] → va_S A s.heap H locs → W p l e R s m args below meth c H locs cells slots Q (F0 m 902 ls (.ref q :: rest))) : W p l e R s m args below meth c H locs cells slots Q (F0 m 837 ls (.ref q :: rest)) := by
  refine lv_dup hx hb d_D_init_837 rfl ?_
  refine lv_bipush (v := (39 : Int32)) hx hb d_D_init_838 (by decide) ?_
  refine lv_iconst (v := (2 : Int32)) hx hb d_D_init_840 (by decide) ?_
  refine va_iast hx hb hK hP hD hS 2 1 rfl rfl (by unfold vp_in; decide) d_D_init_841 (fun H locs hP hD hS => ?_)
  have hP : va_P D vwCl ([(x0, .inr (6, fs)), (x1, .inl (c1, 91, .inr (.inl f1))), (q, .inl (cq, 91, .inl (upd (tbI fmL 39) (39 : Int32).toNatClampNeg (2 : Int32))))]) H := hP
  have hD : va_D A ([(x0, .inr (6, fs)), (x1, .inl (c1, 91, .inr (.inl f1))), (q, .inl (cq, 91, .inl (upd (tbI fmL 39) (39 : Int32).toNatClampNeg (2 : Int32))))]) := hD
  rw [tbI_s (L := fmL) (k := 39) (i := (39 : Int32)) (v := (2 : Int32)) rfl rfl] at hP hD
  refine lv_dup hx hb d_D_init_842 rfl ?_
  refine lv_bipush (v := (40 : Int32)) hx hb d_D_init_843 (by decide) ?_
  refine lv_iconst (v := (3 : Int32)) hx hb d_D_init_845 (by decide) ?_
  refine va_iast hx hb hK hP hD hS 2 1 rfl rfl (by unfold vp_in; decide) d_D_init_846 (fun H locs hP hD hS => ?_)
  have hP : va_P D vwCl ([(x0, .inr (6, fs)), (x1, .inl (c1, 91, .inr (.inl f1))), (q, .inl (cq, 91, .inl (upd (tbI fmL 40) (40 : Int32).toNatClampNeg (3 : Int32))))]) H := hP
  have hD : va_D A ([(x0, .inr (6, fs)), (x1, .inl (c1, 91, .inr (.inl f1))), (q, .inl (cq, 91, .inl (upd (tbI fmL 40) (40 : Int32).toNatClampNeg (3 : Int32))))]) := hD
  rw [tbI_s (L := fmL) (k := 40) (i := (40 : Int32)) (v := (3 : Int32)) rfl rfl] at hP hD
  refine lv_dup hx hb d_D_init_847 rfl ?_
  refine lv_bipush (v := (41 : Int32)) hx hb d_D_init_848 (by decide) ?_
  refine lv_iconst (v := (3 : Int32)) hx hb d_D_init_850 (by decide) ?_
  refine va_iast hx hb hK hP hD hS 2 1 rfl rfl (by unfold vp_in; decide) d_D_init_851 (fun H locs hP hD hS => ?_)
  have hP : va_P D vwCl ([(x0, .inr (6, fs)), (x1, .inl (c1, 91, .inr (.inl f1))), (q, .inl (cq, 91, .inl (upd (tbI fmL 41) (41 : Int32).toNatClampNeg (3 : Int32))))]) H := hP
  have hD : va_D A ([(x0, .inr (6, fs)), (x1, .inl (c1, 91, .inr (.inl f1))), (q, .inl (cq, 91, .inl (upd (tbI fmL 41) (41 : Int32).toNatClampNeg (3 : Int32))))]) := hD
  rw [tbI_s (L := fmL) (k := 41) (i := (41 : Int32)) (v := (3 : Int32)) rfl rfl] at hP hD
  refine lv_dup hx hb d_D_init_852 rfl ?_
  refine lv_bipush (v := (42 : Int32)) hx hb d_D_init_853 (by decide) ?_
  refine lv_iconst (v := (3 : Int32)) hx hb d_D_init_855 (by decide) ?_
  refine va_iast hx hb hK hP hD hS 2 1 rfl rfl (by unfold vp_in; decide) d_D_init_856 (fun H locs hP hD hS => ?_)
  have hP : va_P D vwCl ([(x0, .inr (6, fs)), (x1, .inl (c1, 91, .inr (.inl f1))), (q, .inl (cq, 91, .inl (upd (tbI fmL 42) (42 : Int32).toNatClampNeg (3 : Int32))))]) H := hP
  have hD : va_D A ([(x0, .inr (6, fs)), (x1, .inl (c1, 91, .inr (.inl f1))), (q, .inl (cq, 91, .inl (upd (tbI fmL 42) (42 : Int32).toNatClampNeg (3 : Int32))))]) := hD
  rw [tbI_s (L := fmL) (k := 42) (i := (42 : Int32)) (v := (3 : Int32)) rfl rfl] at hP hD
  refine lv_dup hx hb d_D_init_857 rfl ?_
  refine lv_bipush (v := (43 : Int32)) hx hb d_D_init_858 (by decide) ?_
  refine lv_iconst (v := (3 : Int32)) hx hb d_D_init_860 (by decide) ?_
  refine va_iast hx hb hK hP hD hS 2 1 rfl rfl (by unfold vp_in; decide) d_D_init_861 (fun H locs hP hD hS => ?_)
  have hP : va_P D vwCl ([(x0, .inr (6, fs)), (x1, .inl (c1, 91, .inr (.inl f1))), (q, .inl (cq, 91, .inl (upd (tbI fmL 43) (43 : Int32).toNatClampNeg (3 : Int32))))]) H := hP
  have hD : va_D A ([(x0, .inr (6, fs)), (x1, .inl (c1, 91, .inr (.inl f1))), (q, .inl (cq, 91, .inl (upd (tbI fmL 43) (43 : Int32).toNatClampNeg (3 : Int32))))]) := hD
  rw [tbI_s (L := fmL) (k := 43) (i := (43 : Int32)) (v := (3 : Int32)) rfl rfl] at hP hD
  refine lv_dup hx hb d_D_init_862 rfl ?_
  refine lv_bipush (v := (44 : Int32)) hx hb d_D_init_863 (by decide) ?_
  refine lv_iconst (v := (3 : Int32)) hx hb d_D_init_865 (by decide) ?_
  refine va_iast hx hb hK hP hD hS 2 1 rfl rfl (by unfold vp_in; decide) d_D_init_866 (fun H locs hP hD hS => ?_)
  have hP : va_P D vwCl ([(x0, .inr (6, fs)), (x1, .inl (c1, 91, .inr (.inl f1))), (q, .inl (cq, 91, .inl (upd (tbI fmL 44) (44 : Int32).toNatClampNeg (3 : Int32))))]) H := hP
  have hD : va_D A ([(x0, .inr (6, fs)), (x1, .inl (c1, 91, .inr (.inl f1))), (q, .inl (cq, 91, .inl (upd (tbI fmL 44) (44 : Int32).toNatClampNeg (3 : Int32))))]) := hD
  rw [tbI_s (L := fmL) (k := 44) (i := (44 : Int32)) (v := (3 : Int32)) rfl rfl] at hP hD
  refine lv_dup hx hb d_D_init_867 rfl ?_
  refine lv_bipush (v := (45 : Int32)) hx hb d_D_init_868 (by decide) ?_
  refine lv_iconst (v := (4 : Int32)) hx hb d_D_init_870 (by decide) ?_
  refine va_iast hx hb hK hP hD hS 2 1 rfl rfl (by unfold vp_in; decide) d_D_init_871 (fun H locs hP hD hS => ?_)
  have hP : va_P D vwCl ([(x0, .inr (6, fs)), (x1, .inl (c1, 91, .inr (.inl f1))), (q, .inl (cq, 91, .inl (upd (tbI fmL 45) (45 : Int32).toNatClampNeg (4 : Int32))))]) H := hP
  have hD : va_D A ([(x0, .inr (6, fs)), (x1, .inl (c1, 91, .inr (.inl f1))), (q, .inl (cq, 91, .inl (upd (tbI fmL 45) (45 : Int32).toNatClampNeg (4 : Int32))))]) := hD
  rw [tbI_s (L := fmL) (k := 45) (i := (45 : Int32)) (v := (4 : Int32)) rfl rfl] at hP hD
  refine lv_dup hx hb d_D_init_872 rfl ?_
  refine lv_bipush (v := (46 : Int32)) hx hb d_D_init_873 (by decide) ?_
  refine lv_iconst (v := (5 : Int32)) hx hb d_D_init_875 (by decide) ?_
  refine va_iast hx hb hK hP hD hS 2 1 rfl rfl (by unfold vp_in; decide) d_D_init_876 (fun H locs hP hD hS => ?_)
  have hP : va_P D vwCl ([(x0, .inr (6, fs)), (x1, .inl (c1, 91, .inr (.inl f1))), (q, .inl (cq, 91, .inl (upd (tbI fmL 46) (46 : Int32).toNatClampNeg (5 : Int32))))]) H := hP
  have hD : va_D A ([(x0, .inr (6, fs)), (x1, .inl (c1, 91, .inr (.inl f1))), (q, .inl (cq, 91, .inl (upd (tbI fmL 46) (46 : Int32).toNatClampNeg (5 : Int32))))]) := hD
  rw [tbI_s (L := fmL) (k := 46) (i := (46 : Int32)) (v := (5 : Int32)) rfl rfl] at hP hD
  refine lv_dup hx hb d_D_init_877 rfl ?_
  refine lv_bipush (v := (47 : Int32)) hx hb d_D_init_878 (by decide) ?_
  refine lv_iconst (v := (3 : Int32)) hx hb d_D_init_880 (by decide) ?_
  refine va_iast hx hb hK hP hD hS 2 1 rfl rfl (by unfold vp_in; decide) d_D_init_881 (fun H locs hP hD hS => ?_)
  have hP : va_P D vwCl ([(x0, .inr (6, fs)), (x1, .inl (c1, 91, .inr (.inl f1))), (q, .inl (cq, 91, .inl (upd (tbI fmL 47) (47 : Int32).toNatClampNeg (3 : Int32))))]) H := hP
  have hD : va_D A ([(x0, .inr (6, fs)), (x1, .inl (c1, 91, .inr (.inl f1))), (q, .inl (cq, 91, .inl (upd (tbI fmL 47) (47 : Int32).toNatClampNeg (3 : Int32))))]) := hD
  rw [tbI_s (L := fmL) (k := 47) (i := (47 : Int32)) (v := (3 : Int32)) rfl rfl] at hP hD
  refine lv_dup hx hb d_D_init_882 rfl ?_
  refine lv_bipush (v := (48 : Int32)) hx hb d_D_init_883 (by decide) ?_
  refine lv_iconst (v := (5 : Int32)) hx hb d_D_init_885 (by decide) ?_
  refine va_iast hx hb hK hP hD hS 2 1 rfl rfl (by unfold vp_in; decide) d_D_init_886 (fun H locs hP hD hS => ?_)
  have hP : va_P D vwCl ([(x0, .inr (6, fs)), (x1, .inl (c1, 91, .inr (.inl f1))), (q, .inl (cq, 91, .inl (upd (tbI fmL 48) (48 : Int32).toNatClampNeg (5 : Int32))))]) H := hP
  have hD : va_D A ([(x0, .inr (6, fs)), (x1, .inl (c1, 91, .inr (.inl f1))), (q, .inl (cq, 91, .inl (upd (tbI fmL 48) (48 : Int32).toNatClampNeg (5 : Int32))))]) := hD
  rw [tbI_s (L := fmL) (k := 48) (i := (48 : Int32)) (v := (5 : Int32)) rfl rfl] at hP hD
  refine lv_dup hx hb d_D_init_887 rfl ?_
  refine lv_bipush (v := (49 : Int32)) hx hb d_D_init_888 (by decide) ?_
  refine lv_iconst (v := (3 : Int32)) hx hb d_D_init_890 (by decide) ?_
  refine va_iast hx hb hK hP hD hS 2 1 rfl rfl (by unfold vp_in; decide) d_D_init_891 (fun H locs hP hD hS => ?_)
  have hP : va_P D vwCl ([(x0, .inr (6, fs)), (x1, .inl (c1, 91, .inr (.inl f1))), (q, .inl (cq, 91, .inl (upd (tbI fmL 49) (49 : Int32).toNatClampNeg (3 : Int32))))]) H := hP
  have hD : va_D A ([(x0, .inr (6, fs)), (x1, .inl (c1, 91, .inr (.inl f1))), (q, .inl (cq, 91, .inl (upd (tbI fmL 49) (49 : Int32).toNatClampNeg (3 : Int32))))]) := hD
  rw [tbI_s (L := fmL) (k := 49) (i := (49 : Int32)) (v := (3 : Int32)) rfl rfl] at hP hD
  refine lv_dup hx hb d_D_init_892 rfl ?_
  refine lv_bipush (v := (50 : Int32)) hx hb d_D_init_893 (by decide) ?_
  refine lv_iconst (v := (5 : Int32)) hx hb d_D_init_895 (by decide) ?_
  refine va_iast hx hb hK hP hD hS 2 1 rfl rfl (by unfold vp_in; decide) d_D_init_896 (fun H locs hP hD hS => ?_)
  have hP : va_P D vwCl ([(x0, .inr (6, fs)), (x1, .inl (c1, 91, .inr (.inl f1))), (q, .inl (cq, 91, .inl (upd (tbI fmL 50) (50 : Int32).toNatClampNeg (5 : Int32))))]) H := hP
  have hD : va_D A ([(x0, .inr (6, fs)), (x1, .inl (c1, 91, .inr (.inl f1))), (q, .inl (cq, 91, .inl (upd (tbI fmL 50) (50 : Int32).toNatClampNeg (5 : Int32))))]) := hD
  rw [tbI_s (L := fmL) (k := 50) (i := (50 : Int32)) (v := (5 : Int32)) rfl rfl] at hP hD
  refine lv_dup hx hb d_D_init_897 rfl ?_
  refine lv_bipush (v := (51 : Int32)) hx hb d_D_init_898 (by decide) ?_
  refine lv_iconst (v := (3 : Int32)) hx hb d_D_init_900 (by decide) ?_
  refine va_iast hx hb hK hP hD hS 2 1 rfl rfl (by unfold vp_in; decide) d_D_init_901 (fun H locs hP hD hS => ?_)
  have hP : va_P D vwCl ([(x0, .inr (6, fs)), (x1, .inl (c1, 91, .inr (.inl f1))), (q, .inl (cq, 91, .inl (upd (tbI fmL 51) (51 : Int32).toNatClampNeg (3 : Int32))))]) H := hP
  have hD : va_D A ([(x0, .inr (6, fs)), (x1, .inl (c1, 91, .inr (.inl f1))), (q, .inl (cq, 91, .inl (upd (tbI fmL 51) (51 : Int32).toNatClampNeg (3 : Int32))))]) := hD
  rw [tbI_s (L := fmL) (k := 51) (i := (51 : Int32)) (v := (3 : Int32)) rfl rfl] at hP hD
  exact kk H locs hP hD hS
set_option maxHeartbeats 4000000 in
set_option maxRecDepth 100000 in
theorem ch_D_init_902 {p : Program} {l : Launch} {e : Env} {R : Room} {s : State} {m : MethodId} {args : Array Value} {below : List Frame} {meth : Method} {c : Code} {H : Heap} {locs : List Loc} {cells slots : Nat} {Q : State → Prop} {ls : Array Slot} {D : va_G} {A : Nat → Prop} {fs : List Value} {x0 : Nat} {x1 : Nat} {c1 : ClassId} {f1 : Nat → Int64} {q : Nat} {cq : ClassId} {rest : List Value} (hx : p.tables.exec = Jvm.exec) (hb : c.code = c_D_init) (hown : s.vm.findClass "WindowMachineModel" = some m.cls) (ht : ∀ w9 ∈ zT, w9.before args s = true) (hK : va_K D vwCl [(c1, .long), (cq, .int)] s) (hP : va_P D vwCl [(x0, .inr (6, fs)), (x1, .inl (c1, 91, .inr (.inl f1))), (q, .inl (cq, 91, .inl (tbI fmL 52)))] H) (hD : va_D A [(x0, .inr (6, fs)), (x1, .inl (c1, 91, .inr (.inl f1))), (q, .inl (cq, 91, .inl (tbI fmL 52)))]) (hS : va_S A s.heap H locs)
    (kk : ∀ (H : Heap) (locs : List Loc), va_P D vwCl [(x0, .inr (6, fs)), (x1, .inl (c1, 91, .inr (.inl f1))), (q, .inl (cq, 91, .inl (tbI fmL 65)))] H → va_D A [(x0, .inr (6, fs)), (x1, .inl (c1, 91, .inr (.inl f1))), (q, .inl (cq, 91, .inl (tbI fmL 65)))] → va_S A s.heap H locs → W p l e R s m args below meth c H locs cells slots Q (F0 m 967 ls (.ref q :: rest))) : W p l e R s m args below meth c H locs cells slots Q (F0 m 902 ls (.ref q :: rest)) := by
  refine lv_dup hx hb d_D_init_902 rfl ?_
  refine lv_bipush (v := (52 : Int32)) hx hb d_D_init_903 (by decide) ?_
  refine lv_iconst (v := (5 : Int32)) hx hb d_D_init_905 (by decide) ?_
  refine va_iast hx hb hK hP hD hS 2 1 rfl rfl (by unfold vp_in; decide) d_D_init_906 (fun H locs hP hD hS => ?_)
  have hP : va_P D vwCl ([(x0, .inr (6, fs)), (x1, .inl (c1, 91, .inr (.inl f1))), (q, .inl (cq, 91, .inl (upd (tbI fmL 52) (52 : Int32).toNatClampNeg (5 : Int32))))]) H := hP
  have hD : va_D A ([(x0, .inr (6, fs)), (x1, .inl (c1, 91, .inr (.inl f1))), (q, .inl (cq, 91, .inl (upd (tbI fmL 52) (52 : Int32).toNatClampNeg (5 : Int32))))]) := hD
  rw [tbI_s (L := fmL) (k := 52) (i := (52 : Int32)) (v := (5 : Int32)) rfl rfl] at hP hD
  refine lv_dup hx hb d_D_init_907 rfl ?_
  refine lv_bipush (v := (53 : Int32)) hx hb d_D_init_908 (by decide) ?_
  refine lv_iconst (v := (3 : Int32)) hx hb d_D_init_910 (by decide) ?_
  refine va_iast hx hb hK hP hD hS 2 1 rfl rfl (by unfold vp_in; decide) d_D_init_911 (fun H locs hP hD hS => ?_)
  have hP : va_P D vwCl ([(x0, .inr (6, fs)), (x1, .inl (c1, 91, .inr (.inl f1))), (q, .inl (cq, 91, .inl (upd (tbI fmL 53) (53 : Int32).toNatClampNeg (3 : Int32))))]) H := hP
  have hD : va_D A ([(x0, .inr (6, fs)), (x1, .inl (c1, 91, .inr (.inl f1))), (q, .inl (cq, 91, .inl (upd (tbI fmL 53) (53 : Int32).toNatClampNeg (3 : Int32))))]) := hD
  rw [tbI_s (L := fmL) (k := 53) (i := (53 : Int32)) (v := (3 : Int32)) rfl rfl] at hP hD
  refine lv_dup hx hb d_D_init_912 rfl ?_
  refine lv_bipush (v := (54 : Int32)) hx hb d_D_init_913 (by decide) ?_
  refine lv_iconst (v := (5 : Int32)) hx hb d_D_init_915 (by decide) ?_
  refine va_iast hx hb hK hP hD hS 2 1 rfl rfl (by unfold vp_in; decide) d_D_init_916 (fun H locs hP hD hS => ?_)
  have hP : va_P D vwCl ([(x0, .inr (6, fs)), (x1, .inl (c1, 91, .inr (.inl f1))), (q, .inl (cq, 91, .inl (upd (tbI fmL 54) (54 : Int32).toNatClampNeg (5 : Int32))))]) H := hP
  have hD : va_D A ([(x0, .inr (6, fs)), (x1, .inl (c1, 91, .inr (.inl f1))), (q, .inl (cq, 91, .inl (upd (tbI fmL 54) (54 : Int32).toNatClampNeg (5 : Int32))))]) := hD
  rw [tbI_s (L := fmL) (k := 54) (i := (54 : Int32)) (v := (5 : Int32)) rfl rfl] at hP hD
  refine lv_dup hx hb d_D_init_917 rfl ?_
  refine lv_bipush (v := (55 : Int32)) hx hb d_D_init_918 (by decide) ?_
  refine lv_iconst (v := (3 : Int32)) hx hb d_D_init_920 (by decide) ?_
  refine va_iast hx hb hK hP hD hS 2 1 rfl rfl (by unfold vp_in; decide) d_D_init_921 (fun H locs hP hD hS => ?_)
  have hP : va_P D vwCl ([(x0, .inr (6, fs)), (x1, .inl (c1, 91, .inr (.inl f1))), (q, .inl (cq, 91, .inl (upd (tbI fmL 55) (55 : Int32).toNatClampNeg (3 : Int32))))]) H := hP
  have hD : va_D A ([(x0, .inr (6, fs)), (x1, .inl (c1, 91, .inr (.inl f1))), (q, .inl (cq, 91, .inl (upd (tbI fmL 55) (55 : Int32).toNatClampNeg (3 : Int32))))]) := hD
  rw [tbI_s (L := fmL) (k := 55) (i := (55 : Int32)) (v := (3 : Int32)) rfl rfl] at hP hD
  refine lv_dup hx hb d_D_init_922 rfl ?_
  refine lv_bipush (v := (56 : Int32)) hx hb d_D_init_923 (by decide) ?_
  refine lv_iconst (v := (5 : Int32)) hx hb d_D_init_925 (by decide) ?_
  refine va_iast hx hb hK hP hD hS 2 1 rfl rfl (by unfold vp_in; decide) d_D_init_926 (fun H locs hP hD hS => ?_)
  have hP : va_P D vwCl ([(x0, .inr (6, fs)), (x1, .inl (c1, 91, .inr (.inl f1))), (q, .inl (cq, 91, .inl (upd (tbI fmL 56) (56 : Int32).toNatClampNeg (5 : Int32))))]) H := hP
  have hD : va_D A ([(x0, .inr (6, fs)), (x1, .inl (c1, 91, .inr (.inl f1))), (q, .inl (cq, 91, .inl (upd (tbI fmL 56) (56 : Int32).toNatClampNeg (5 : Int32))))]) := hD
  rw [tbI_s (L := fmL) (k := 56) (i := (56 : Int32)) (v := (5 : Int32)) rfl rfl] at hP hD
  refine lv_dup hx hb d_D_init_927 rfl ?_
  refine lv_bipush (v := (57 : Int32)) hx hb d_D_init_928 (by decide) ?_
  refine lv_iconst (v := (3 : Int32)) hx hb d_D_init_930 (by decide) ?_
  refine va_iast hx hb hK hP hD hS 2 1 rfl rfl (by unfold vp_in; decide) d_D_init_931 (fun H locs hP hD hS => ?_)
  have hP : va_P D vwCl ([(x0, .inr (6, fs)), (x1, .inl (c1, 91, .inr (.inl f1))), (q, .inl (cq, 91, .inl (upd (tbI fmL 57) (57 : Int32).toNatClampNeg (3 : Int32))))]) H := hP
  have hD : va_D A ([(x0, .inr (6, fs)), (x1, .inl (c1, 91, .inr (.inl f1))), (q, .inl (cq, 91, .inl (upd (tbI fmL 57) (57 : Int32).toNatClampNeg (3 : Int32))))]) := hD
  rw [tbI_s (L := fmL) (k := 57) (i := (57 : Int32)) (v := (3 : Int32)) rfl rfl] at hP hD
  refine lv_dup hx hb d_D_init_932 rfl ?_
  refine lv_bipush (v := (58 : Int32)) hx hb d_D_init_933 (by decide) ?_
  refine lv_iconst (v := (5 : Int32)) hx hb d_D_init_935 (by decide) ?_
  refine va_iast hx hb hK hP hD hS 2 1 rfl rfl (by unfold vp_in; decide) d_D_init_936 (fun H locs hP hD hS => ?_)
  have hP : va_P D vwCl ([(x0, .inr (6, fs)), (x1, .inl (c1, 91, .inr (.inl f1))), (q, .inl (cq, 91, .inl (upd (tbI fmL 58) (58 : Int32).toNatClampNeg (5 : Int32))))]) H := hP
  have hD : va_D A ([(x0, .inr (6, fs)), (x1, .inl (c1, 91, .inr (.inl f1))), (q, .inl (cq, 91, .inl (upd (tbI fmL 58) (58 : Int32).toNatClampNeg (5 : Int32))))]) := hD
  rw [tbI_s (L := fmL) (k := 58) (i := (58 : Int32)) (v := (5 : Int32)) rfl rfl] at hP hD
  refine lv_dup hx hb d_D_init_937 rfl ?_
  refine lv_bipush (v := (59 : Int32)) hx hb d_D_init_938 (by decide) ?_
  refine lv_iconst (v := (3 : Int32)) hx hb d_D_init_940 (by decide) ?_
  refine va_iast hx hb hK hP hD hS 2 1 rfl rfl (by unfold vp_in; decide) d_D_init_941 (fun H locs hP hD hS => ?_)
  have hP : va_P D vwCl ([(x0, .inr (6, fs)), (x1, .inl (c1, 91, .inr (.inl f1))), (q, .inl (cq, 91, .inl (upd (tbI fmL 59) (59 : Int32).toNatClampNeg (3 : Int32))))]) H := hP
  have hD : va_D A ([(x0, .inr (6, fs)), (x1, .inl (c1, 91, .inr (.inl f1))), (q, .inl (cq, 91, .inl (upd (tbI fmL 59) (59 : Int32).toNatClampNeg (3 : Int32))))]) := hD
  rw [tbI_s (L := fmL) (k := 59) (i := (59 : Int32)) (v := (3 : Int32)) rfl rfl] at hP hD
  refine lv_dup hx hb d_D_init_942 rfl ?_
  refine lv_bipush (v := (60 : Int32)) hx hb d_D_init_943 (by decide) ?_
  refine lv_iconst (v := (5 : Int32)) hx hb d_D_init_945 (by decide) ?_
  refine va_iast hx hb hK hP hD hS 2 1 rfl rfl (by unfold vp_in; decide) d_D_init_946 (fun H locs hP hD hS => ?_)
  have hP : va_P D vwCl ([(x0, .inr (6, fs)), (x1, .inl (c1, 91, .inr (.inl f1))), (q, .inl (cq, 91, .inl (upd (tbI fmL 60) (60 : Int32).toNatClampNeg (5 : Int32))))]) H := hP
  have hD : va_D A ([(x0, .inr (6, fs)), (x1, .inl (c1, 91, .inr (.inl f1))), (q, .inl (cq, 91, .inl (upd (tbI fmL 60) (60 : Int32).toNatClampNeg (5 : Int32))))]) := hD
  rw [tbI_s (L := fmL) (k := 60) (i := (60 : Int32)) (v := (5 : Int32)) rfl rfl] at hP hD
  refine lv_dup hx hb d_D_init_947 rfl ?_
  refine lv_bipush (v := (61 : Int32)) hx hb d_D_init_948 (by decide) ?_
  refine lv_iconst (v := (3 : Int32)) hx hb d_D_init_950 (by decide) ?_
  refine va_iast hx hb hK hP hD hS 2 1 rfl rfl (by unfold vp_in; decide) d_D_init_951 (fun H locs hP hD hS => ?_)
  have hP : va_P D vwCl ([(x0, .inr (6, fs)), (x1, .inl (c1, 91, .inr (.inl f1))), (q, .inl (cq, 91, .inl (upd (tbI fmL 61) (61 : Int32).toNatClampNeg (3 : Int32))))]) H := hP
  have hD : va_D A ([(x0, .inr (6, fs)), (x1, .inl (c1, 91, .inr (.inl f1))), (q, .inl (cq, 91, .inl (upd (tbI fmL 61) (61 : Int32).toNatClampNeg (3 : Int32))))]) := hD
  rw [tbI_s (L := fmL) (k := 61) (i := (61 : Int32)) (v := (3 : Int32)) rfl rfl] at hP hD
  refine lv_dup hx hb d_D_init_952 rfl ?_
  refine lv_bipush (v := (62 : Int32)) hx hb d_D_init_953 (by decide) ?_
  refine lv_iconst (v := (5 : Int32)) hx hb d_D_init_955 (by decide) ?_
  refine va_iast hx hb hK hP hD hS 2 1 rfl rfl (by unfold vp_in; decide) d_D_init_956 (fun H locs hP hD hS => ?_)
  have hP : va_P D vwCl ([(x0, .inr (6, fs)), (x1, .inl (c1, 91, .inr (.inl f1))), (q, .inl (cq, 91, .inl (upd (tbI fmL 62) (62 : Int32).toNatClampNeg (5 : Int32))))]) H := hP
  have hD : va_D A ([(x0, .inr (6, fs)), (x1, .inl (c1, 91, .inr (.inl f1))), (q, .inl (cq, 91, .inl (upd (tbI fmL 62) (62 : Int32).toNatClampNeg (5 : Int32))))]) := hD
  rw [tbI_s (L := fmL) (k := 62) (i := (62 : Int32)) (v := (5 : Int32)) rfl rfl] at hP hD
  refine lv_dup hx hb d_D_init_957 rfl ?_
  refine lv_bipush (v := (63 : Int32)) hx hb d_D_init_958 (by decide) ?_
  refine lv_iconst (v := (3 : Int32)) hx hb d_D_init_960 (by decide) ?_
  refine va_iast hx hb hK hP hD hS 2 1 rfl rfl (by unfold vp_in; decide) d_D_init_961 (fun H locs hP hD hS => ?_)
  have hP : va_P D vwCl ([(x0, .inr (6, fs)), (x1, .inl (c1, 91, .inr (.inl f1))), (q, .inl (cq, 91, .inl (upd (tbI fmL 63) (63 : Int32).toNatClampNeg (3 : Int32))))]) H := hP
  have hD : va_D A ([(x0, .inr (6, fs)), (x1, .inl (c1, 91, .inr (.inl f1))), (q, .inl (cq, 91, .inl (upd (tbI fmL 63) (63 : Int32).toNatClampNeg (3 : Int32))))]) := hD
  rw [tbI_s (L := fmL) (k := 63) (i := (63 : Int32)) (v := (3 : Int32)) rfl rfl] at hP hD
  refine lv_dup hx hb d_D_init_962 rfl ?_
  refine lv_bipush (v := (64 : Int32)) hx hb d_D_init_963 (by decide) ?_
  refine lv_iconst (v := (5 : Int32)) hx hb d_D_init_965 (by decide) ?_
  refine va_iast hx hb hK hP hD hS 2 1 rfl rfl (by unfold vp_in; decide) d_D_init_966 (fun H locs hP hD hS => ?_)
  have hP : va_P D vwCl ([(x0, .inr (6, fs)), (x1, .inl (c1, 91, .inr (.inl f1))), (q, .inl (cq, 91, .inl (upd (tbI fmL 64) (64 : Int32).toNatClampNeg (5 : Int32))))]) H := hP
  have hD : va_D A ([(x0, .inr (6, fs)), (x1, .inl (c1, 91, .inr (.inl f1))), (q, .inl (cq, 91, .inl (upd (tbI fmL 64) (64 : Int32).toNatClampNeg (5 : Int32))))]) := hD
  rw [tbI_s (L := fmL) (k := 64) (i := (64 : Int32)) (v := (5 : Int32)) rfl rfl] at hP hD
  exact kk H locs hP hD hS
set_option maxHeartbeats 4000000 in
set_option maxRecDepth 100000 in
theorem ch_D_init_967 {p : Program} {l : Launch} {e : Env} {R : Room} {s : State} {m : MethodId} {args : Array Value} {below : List Frame} {meth : Method} {c : Code} {H : Heap} {locs : List Loc} {cells slots : Nat} {Q : State → Prop} {ls : Array Slot} {D : va_G} {A : Nat → Prop} {fs : List Value} {x0 : Nat} {x1 : Nat} {c1 : ClassId} {f1 : Nat → Int64} {q : Nat} {cq : ClassId} {rest : List Value} (hx : p.tables.exec = Jvm.exec) (hb : c.code = c_D_init) (hown : s.vm.findClass "WindowMachineModel" = some m.cls) (ht : ∀ w9 ∈ zT, w9.before args s = true) (hK : va_K D vwCl [(c1, .long), (cq, .int)] s) (hP : va_P D vwCl [(x0, .inr (6, fs)), (x1, .inl (c1, 91, .inr (.inl f1))), (q, .inl (cq, 91, .inl (tbI fmL 65)))] H) (hD : va_D A [(x0, .inr (6, fs)), (x1, .inl (c1, 91, .inr (.inl f1))), (q, .inl (cq, 91, .inl (tbI fmL 65)))]) (hS : va_S A s.heap H locs)
    (kk : ∀ (H : Heap) (locs : List Loc), va_P D vwCl [(x0, .inr (6, fs)), (x1, .inl (c1, 91, .inr (.inl f1))), (q, .inl (cq, 91, .inl (tbI fmL 78)))] H → va_D A [(x0, .inr (6, fs)), (x1, .inl (c1, 91, .inr (.inl f1))), (q, .inl (cq, 91, .inl (tbI fmL 78)))] → va_S A s.heap H locs → W p l e R s m args below meth c H locs cells slots Q (F0 m 1032 ls (.ref q :: rest))) : W p l e R s m args below meth c H locs cells slots Q (F0 m 967 ls (.ref q :: rest)) := by
  refine lv_dup hx hb d_D_init_967 rfl ?_
  refine lv_bipush (v := (65 : Int32)) hx hb d_D_init_968 (by decide) ?_
  refine lv_iconst (v := (3 : Int32)) hx hb d_D_init_970 (by decide) ?_
  refine va_iast hx hb hK hP hD hS 2 1 rfl rfl (by unfold vp_in; decide) d_D_init_971 (fun H locs hP hD hS => ?_)
  have hP : va_P D vwCl ([(x0, .inr (6, fs)), (x1, .inl (c1, 91, .inr (.inl f1))), (q, .inl (cq, 91, .inl (upd (tbI fmL 65) (65 : Int32).toNatClampNeg (3 : Int32))))]) H := hP
  have hD : va_D A ([(x0, .inr (6, fs)), (x1, .inl (c1, 91, .inr (.inl f1))), (q, .inl (cq, 91, .inl (upd (tbI fmL 65) (65 : Int32).toNatClampNeg (3 : Int32))))]) := hD
  rw [tbI_s (L := fmL) (k := 65) (i := (65 : Int32)) (v := (3 : Int32)) rfl rfl] at hP hD
  refine lv_dup hx hb d_D_init_972 rfl ?_
  refine lv_bipush (v := (66 : Int32)) hx hb d_D_init_973 (by decide) ?_
  refine lv_iconst (v := (5 : Int32)) hx hb d_D_init_975 (by decide) ?_
  refine va_iast hx hb hK hP hD hS 2 1 rfl rfl (by unfold vp_in; decide) d_D_init_976 (fun H locs hP hD hS => ?_)
  have hP : va_P D vwCl ([(x0, .inr (6, fs)), (x1, .inl (c1, 91, .inr (.inl f1))), (q, .inl (cq, 91, .inl (upd (tbI fmL 66) (66 : Int32).toNatClampNeg (5 : Int32))))]) H := hP
  have hD : va_D A ([(x0, .inr (6, fs)), (x1, .inl (c1, 91, .inr (.inl f1))), (q, .inl (cq, 91, .inl (upd (tbI fmL 66) (66 : Int32).toNatClampNeg (5 : Int32))))]) := hD
  rw [tbI_s (L := fmL) (k := 66) (i := (66 : Int32)) (v := (5 : Int32)) rfl rfl] at hP hD
  refine lv_dup hx hb d_D_init_977 rfl ?_
  refine lv_bipush (v := (67 : Int32)) hx hb d_D_init_978 (by decide) ?_
  refine lv_iconst (v := (3 : Int32)) hx hb d_D_init_980 (by decide) ?_
  refine va_iast hx hb hK hP hD hS 2 1 rfl rfl (by unfold vp_in; decide) d_D_init_981 (fun H locs hP hD hS => ?_)
  have hP : va_P D vwCl ([(x0, .inr (6, fs)), (x1, .inl (c1, 91, .inr (.inl f1))), (q, .inl (cq, 91, .inl (upd (tbI fmL 67) (67 : Int32).toNatClampNeg (3 : Int32))))]) H := hP
  have hD : va_D A ([(x0, .inr (6, fs)), (x1, .inl (c1, 91, .inr (.inl f1))), (q, .inl (cq, 91, .inl (upd (tbI fmL 67) (67 : Int32).toNatClampNeg (3 : Int32))))]) := hD
  rw [tbI_s (L := fmL) (k := 67) (i := (67 : Int32)) (v := (3 : Int32)) rfl rfl] at hP hD
  refine lv_dup hx hb d_D_init_982 rfl ?_
  refine lv_bipush (v := (68 : Int32)) hx hb d_D_init_983 (by decide) ?_
  refine lv_iconst (v := (5 : Int32)) hx hb d_D_init_985 (by decide) ?_
  refine va_iast hx hb hK hP hD hS 2 1 rfl rfl (by unfold vp_in; decide) d_D_init_986 (fun H locs hP hD hS => ?_)
  have hP : va_P D vwCl ([(x0, .inr (6, fs)), (x1, .inl (c1, 91, .inr (.inl f1))), (q, .inl (cq, 91, .inl (upd (tbI fmL 68) (68 : Int32).toNatClampNeg (5 : Int32))))]) H := hP
  have hD : va_D A ([(x0, .inr (6, fs)), (x1, .inl (c1, 91, .inr (.inl f1))), (q, .inl (cq, 91, .inl (upd (tbI fmL 68) (68 : Int32).toNatClampNeg (5 : Int32))))]) := hD
  rw [tbI_s (L := fmL) (k := 68) (i := (68 : Int32)) (v := (5 : Int32)) rfl rfl] at hP hD
  refine lv_dup hx hb d_D_init_987 rfl ?_
  refine lv_bipush (v := (69 : Int32)) hx hb d_D_init_988 (by decide) ?_
  refine lv_iconst (v := (3 : Int32)) hx hb d_D_init_990 (by decide) ?_
  refine va_iast hx hb hK hP hD hS 2 1 rfl rfl (by unfold vp_in; decide) d_D_init_991 (fun H locs hP hD hS => ?_)
  have hP : va_P D vwCl ([(x0, .inr (6, fs)), (x1, .inl (c1, 91, .inr (.inl f1))), (q, .inl (cq, 91, .inl (upd (tbI fmL 69) (69 : Int32).toNatClampNeg (3 : Int32))))]) H := hP
  have hD : va_D A ([(x0, .inr (6, fs)), (x1, .inl (c1, 91, .inr (.inl f1))), (q, .inl (cq, 91, .inl (upd (tbI fmL 69) (69 : Int32).toNatClampNeg (3 : Int32))))]) := hD
  rw [tbI_s (L := fmL) (k := 69) (i := (69 : Int32)) (v := (3 : Int32)) rfl rfl] at hP hD
  refine lv_dup hx hb d_D_init_992 rfl ?_
  refine lv_bipush (v := (70 : Int32)) hx hb d_D_init_993 (by decide) ?_
  refine lv_iconst (v := (5 : Int32)) hx hb d_D_init_995 (by decide) ?_
  refine va_iast hx hb hK hP hD hS 2 1 rfl rfl (by unfold vp_in; decide) d_D_init_996 (fun H locs hP hD hS => ?_)
  have hP : va_P D vwCl ([(x0, .inr (6, fs)), (x1, .inl (c1, 91, .inr (.inl f1))), (q, .inl (cq, 91, .inl (upd (tbI fmL 70) (70 : Int32).toNatClampNeg (5 : Int32))))]) H := hP
  have hD : va_D A ([(x0, .inr (6, fs)), (x1, .inl (c1, 91, .inr (.inl f1))), (q, .inl (cq, 91, .inl (upd (tbI fmL 70) (70 : Int32).toNatClampNeg (5 : Int32))))]) := hD
  rw [tbI_s (L := fmL) (k := 70) (i := (70 : Int32)) (v := (5 : Int32)) rfl rfl] at hP hD
  refine lv_dup hx hb d_D_init_997 rfl ?_
  refine lv_bipush (v := (71 : Int32)) hx hb d_D_init_998 (by decide) ?_
  refine lv_iconst (v := (3 : Int32)) hx hb d_D_init_1000 (by decide) ?_
  refine va_iast hx hb hK hP hD hS 2 1 rfl rfl (by unfold vp_in; decide) d_D_init_1001 (fun H locs hP hD hS => ?_)
  have hP : va_P D vwCl ([(x0, .inr (6, fs)), (x1, .inl (c1, 91, .inr (.inl f1))), (q, .inl (cq, 91, .inl (upd (tbI fmL 71) (71 : Int32).toNatClampNeg (3 : Int32))))]) H := hP
  have hD : va_D A ([(x0, .inr (6, fs)), (x1, .inl (c1, 91, .inr (.inl f1))), (q, .inl (cq, 91, .inl (upd (tbI fmL 71) (71 : Int32).toNatClampNeg (3 : Int32))))]) := hD
  rw [tbI_s (L := fmL) (k := 71) (i := (71 : Int32)) (v := (3 : Int32)) rfl rfl] at hP hD
  refine lv_dup hx hb d_D_init_1002 rfl ?_
  refine lv_bipush (v := (72 : Int32)) hx hb d_D_init_1003 (by decide) ?_
  refine lv_iconst (v := (5 : Int32)) hx hb d_D_init_1005 (by decide) ?_
  refine va_iast hx hb hK hP hD hS 2 1 rfl rfl (by unfold vp_in; decide) d_D_init_1006 (fun H locs hP hD hS => ?_)
  have hP : va_P D vwCl ([(x0, .inr (6, fs)), (x1, .inl (c1, 91, .inr (.inl f1))), (q, .inl (cq, 91, .inl (upd (tbI fmL 72) (72 : Int32).toNatClampNeg (5 : Int32))))]) H := hP
  have hD : va_D A ([(x0, .inr (6, fs)), (x1, .inl (c1, 91, .inr (.inl f1))), (q, .inl (cq, 91, .inl (upd (tbI fmL 72) (72 : Int32).toNatClampNeg (5 : Int32))))]) := hD
  rw [tbI_s (L := fmL) (k := 72) (i := (72 : Int32)) (v := (5 : Int32)) rfl rfl] at hP hD
  refine lv_dup hx hb d_D_init_1007 rfl ?_
  refine lv_bipush (v := (73 : Int32)) hx hb d_D_init_1008 (by decide) ?_
  refine lv_iconst (v := (3 : Int32)) hx hb d_D_init_1010 (by decide) ?_
  refine va_iast hx hb hK hP hD hS 2 1 rfl rfl (by unfold vp_in; decide) d_D_init_1011 (fun H locs hP hD hS => ?_)
  have hP : va_P D vwCl ([(x0, .inr (6, fs)), (x1, .inl (c1, 91, .inr (.inl f1))), (q, .inl (cq, 91, .inl (upd (tbI fmL 73) (73 : Int32).toNatClampNeg (3 : Int32))))]) H := hP
  have hD : va_D A ([(x0, .inr (6, fs)), (x1, .inl (c1, 91, .inr (.inl f1))), (q, .inl (cq, 91, .inl (upd (tbI fmL 73) (73 : Int32).toNatClampNeg (3 : Int32))))]) := hD
  rw [tbI_s (L := fmL) (k := 73) (i := (73 : Int32)) (v := (3 : Int32)) rfl rfl] at hP hD
  refine lv_dup hx hb d_D_init_1012 rfl ?_
  refine lv_bipush (v := (74 : Int32)) hx hb d_D_init_1013 (by decide) ?_
  refine lv_iconst (v := (5 : Int32)) hx hb d_D_init_1015 (by decide) ?_
  refine va_iast hx hb hK hP hD hS 2 1 rfl rfl (by unfold vp_in; decide) d_D_init_1016 (fun H locs hP hD hS => ?_)
  have hP : va_P D vwCl ([(x0, .inr (6, fs)), (x1, .inl (c1, 91, .inr (.inl f1))), (q, .inl (cq, 91, .inl (upd (tbI fmL 74) (74 : Int32).toNatClampNeg (5 : Int32))))]) H := hP
  have hD : va_D A ([(x0, .inr (6, fs)), (x1, .inl (c1, 91, .inr (.inl f1))), (q, .inl (cq, 91, .inl (upd (tbI fmL 74) (74 : Int32).toNatClampNeg (5 : Int32))))]) := hD
  rw [tbI_s (L := fmL) (k := 74) (i := (74 : Int32)) (v := (5 : Int32)) rfl rfl] at hP hD
  refine lv_dup hx hb d_D_init_1017 rfl ?_
  refine lv_bipush (v := (75 : Int32)) hx hb d_D_init_1018 (by decide) ?_
  refine lv_iconst (v := (3 : Int32)) hx hb d_D_init_1020 (by decide) ?_
  refine va_iast hx hb hK hP hD hS 2 1 rfl rfl (by unfold vp_in; decide) d_D_init_1021 (fun H locs hP hD hS => ?_)
  have hP : va_P D vwCl ([(x0, .inr (6, fs)), (x1, .inl (c1, 91, .inr (.inl f1))), (q, .inl (cq, 91, .inl (upd (tbI fmL 75) (75 : Int32).toNatClampNeg (3 : Int32))))]) H := hP
  have hD : va_D A ([(x0, .inr (6, fs)), (x1, .inl (c1, 91, .inr (.inl f1))), (q, .inl (cq, 91, .inl (upd (tbI fmL 75) (75 : Int32).toNatClampNeg (3 : Int32))))]) := hD
  rw [tbI_s (L := fmL) (k := 75) (i := (75 : Int32)) (v := (3 : Int32)) rfl rfl] at hP hD
  refine lv_dup hx hb d_D_init_1022 rfl ?_
  refine lv_bipush (v := (76 : Int32)) hx hb d_D_init_1023 (by decide) ?_
  refine lv_iconst (v := (5 : Int32)) hx hb d_D_init_1025 (by decide) ?_
  refine va_iast hx hb hK hP hD hS 2 1 rfl rfl (by unfold vp_in; decide) d_D_init_1026 (fun H locs hP hD hS => ?_)
  have hP : va_P D vwCl ([(x0, .inr (6, fs)), (x1, .inl (c1, 91, .inr (.inl f1))), (q, .inl (cq, 91, .inl (upd (tbI fmL 76) (76 : Int32).toNatClampNeg (5 : Int32))))]) H := hP
  have hD : va_D A ([(x0, .inr (6, fs)), (x1, .inl (c1, 91, .inr (.inl f1))), (q, .inl (cq, 91, .inl (upd (tbI fmL 76) (76 : Int32).toNatClampNeg (5 : Int32))))]) := hD
  rw [tbI_s (L := fmL) (k := 76) (i := (76 : Int32)) (v := (5 : Int32)) rfl rfl] at hP hD
  refine lv_dup hx hb d_D_init_1027 rfl ?_
  refine lv_bipush (v := (77 : Int32)) hx hb d_D_init_1028 (by decide) ?_
  refine lv_iconst (v := (3 : Int32)) hx hb d_D_init_1030 (by decide) ?_
  refine va_iast hx hb hK hP hD hS 2 1 rfl rfl (by unfold vp_in; decide) d_D_init_1031 (fun H locs hP hD hS => ?_)
  have hP : va_P D vwCl ([(x0, .inr (6, fs)), (x1, .inl (c1, 91, .inr (.inl f1))), (q, .inl (cq, 91, .inl (upd (tbI fmL 77) (77 : Int32).toNatClampNeg (3 : Int32))))]) H := hP
  have hD : va_D A ([(x0, .inr (6, fs)), (x1, .inl (c1, 91, .inr (.inl f1))), (q, .inl (cq, 91, .inl (upd (tbI fmL 77) (77 : Int32).toNatClampNeg (3 : Int32))))]) := hD
  rw [tbI_s (L := fmL) (k := 77) (i := (77 : Int32)) (v := (3 : Int32)) rfl rfl] at hP hD
  exact kk H locs hP hD hS
set_option maxHeartbeats 4000000 in
set_option maxRecDepth 100000 in
theorem ch_D_init_1032 {p : Program} {l : Launch} {e : Env} {R : Room} {s : State} {m : MethodId} {args : Array Value} {below : List Frame} {meth : Method} {c : Code} {H : Heap} {locs : List Loc} {cells slots : Nat} {Q : State → Prop} {ls : Array Slot} {D : va_G} {A : Nat → Prop} {fs : List Value} {x0 : Nat} {x1 : Nat} {c1 : ClassId} {f1 : Nat → Int64} {q : Nat} {cq : ClassId} {rest : List Value} (hx : p.tables.exec = Jvm.exec) (hb : c.code = c_D_init) (hown : s.vm.findClass "WindowMachineModel" = some m.cls) (ht : ∀ w9 ∈ zT, w9.before args s = true) (hK : va_K D vwCl [(c1, .long), (cq, .int)] s) (hP : va_P D vwCl [(x0, .inr (6, fs)), (x1, .inl (c1, 91, .inr (.inl f1))), (q, .inl (cq, 91, .inl (tbI fmL 78)))] H) (hD : va_D A [(x0, .inr (6, fs)), (x1, .inl (c1, 91, .inr (.inl f1))), (q, .inl (cq, 91, .inl (tbI fmL 78)))]) (hS : va_S A s.heap H locs)
    (kk : ∀ (H : Heap) (locs : List Loc), va_P D vwCl [(x0, .inr (6, fs)), (x1, .inl (c1, 91, .inr (.inl f1))), (q, .inl (cq, 91, .inl (tbI fmL 91)))] H → va_D A [(x0, .inr (6, fs)), (x1, .inl (c1, 91, .inr (.inl f1))), (q, .inl (cq, 91, .inl (tbI fmL 91)))] → va_S A s.heap H locs → W p l e R s m args below meth c H locs cells slots Q (F0 m 1102 ls (.ref q :: rest))) : W p l e R s m args below meth c H locs cells slots Q (F0 m 1032 ls (.ref q :: rest)) := by
  refine lv_dup hx hb d_D_init_1032 rfl ?_
  refine lv_bipush (v := (78 : Int32)) hx hb d_D_init_1033 (by decide) ?_
  refine lv_iconst (v := (0 : Int32)) hx hb d_D_init_1035 (by decide) ?_
  refine va_iast hx hb hK hP hD hS 2 1 rfl rfl (by unfold vp_in; decide) d_D_init_1036 (fun H locs hP hD hS => ?_)
  have hP : va_P D vwCl ([(x0, .inr (6, fs)), (x1, .inl (c1, 91, .inr (.inl f1))), (q, .inl (cq, 91, .inl (upd (tbI fmL 78) (78 : Int32).toNatClampNeg (0 : Int32))))]) H := hP
  have hD : va_D A ([(x0, .inr (6, fs)), (x1, .inl (c1, 91, .inr (.inl f1))), (q, .inl (cq, 91, .inl (upd (tbI fmL 78) (78 : Int32).toNatClampNeg (0 : Int32))))]) := hD
  rw [tbI_s (L := fmL) (k := 78) (i := (78 : Int32)) (v := (0 : Int32)) rfl rfl] at hP hD
  refine lv_dup hx hb d_D_init_1037 rfl ?_
  refine lv_bipush (v := (79 : Int32)) hx hb d_D_init_1038 (by decide) ?_
  refine lv_iconst (v := (0 : Int32)) hx hb d_D_init_1040 (by decide) ?_
  refine va_iast hx hb hK hP hD hS 2 1 rfl rfl (by unfold vp_in; decide) d_D_init_1041 (fun H locs hP hD hS => ?_)
  have hP : va_P D vwCl ([(x0, .inr (6, fs)), (x1, .inl (c1, 91, .inr (.inl f1))), (q, .inl (cq, 91, .inl (upd (tbI fmL 79) (79 : Int32).toNatClampNeg (0 : Int32))))]) H := hP
  have hD : va_D A ([(x0, .inr (6, fs)), (x1, .inl (c1, 91, .inr (.inl f1))), (q, .inl (cq, 91, .inl (upd (tbI fmL 79) (79 : Int32).toNatClampNeg (0 : Int32))))]) := hD
  rw [tbI_s (L := fmL) (k := 79) (i := (79 : Int32)) (v := (0 : Int32)) rfl rfl] at hP hD
  refine lv_dup hx hb d_D_init_1042 rfl ?_
  refine lv_bipush (v := (80 : Int32)) hx hb d_D_init_1043 (by decide) ?_
  refine lv_iconst (v := (0 : Int32)) hx hb d_D_init_1045 (by decide) ?_
  refine va_iast hx hb hK hP hD hS 2 1 rfl rfl (by unfold vp_in; decide) d_D_init_1046 (fun H locs hP hD hS => ?_)
  have hP : va_P D vwCl ([(x0, .inr (6, fs)), (x1, .inl (c1, 91, .inr (.inl f1))), (q, .inl (cq, 91, .inl (upd (tbI fmL 80) (80 : Int32).toNatClampNeg (0 : Int32))))]) H := hP
  have hD : va_D A ([(x0, .inr (6, fs)), (x1, .inl (c1, 91, .inr (.inl f1))), (q, .inl (cq, 91, .inl (upd (tbI fmL 80) (80 : Int32).toNatClampNeg (0 : Int32))))]) := hD
  rw [tbI_s (L := fmL) (k := 80) (i := (80 : Int32)) (v := (0 : Int32)) rfl rfl] at hP hD
  refine lv_dup hx hb d_D_init_1047 rfl ?_
  refine lv_bipush (v := (81 : Int32)) hx hb d_D_init_1048 (by decide) ?_
  refine lv_iconst (v := (0 : Int32)) hx hb d_D_init_1050 (by decide) ?_
  refine va_iast hx hb hK hP hD hS 2 1 rfl rfl (by unfold vp_in; decide) d_D_init_1051 (fun H locs hP hD hS => ?_)
  have hP : va_P D vwCl ([(x0, .inr (6, fs)), (x1, .inl (c1, 91, .inr (.inl f1))), (q, .inl (cq, 91, .inl (upd (tbI fmL 81) (81 : Int32).toNatClampNeg (0 : Int32))))]) H := hP
  have hD : va_D A ([(x0, .inr (6, fs)), (x1, .inl (c1, 91, .inr (.inl f1))), (q, .inl (cq, 91, .inl (upd (tbI fmL 81) (81 : Int32).toNatClampNeg (0 : Int32))))]) := hD
  rw [tbI_s (L := fmL) (k := 81) (i := (81 : Int32)) (v := (0 : Int32)) rfl rfl] at hP hD
  refine lv_dup hx hb d_D_init_1052 rfl ?_
  refine lv_bipush (v := (82 : Int32)) hx hb d_D_init_1053 (by decide) ?_
  refine lv_iconst (v := (0 : Int32)) hx hb d_D_init_1055 (by decide) ?_
  refine va_iast hx hb hK hP hD hS 2 1 rfl rfl (by unfold vp_in; decide) d_D_init_1056 (fun H locs hP hD hS => ?_)
  have hP : va_P D vwCl ([(x0, .inr (6, fs)), (x1, .inl (c1, 91, .inr (.inl f1))), (q, .inl (cq, 91, .inl (upd (tbI fmL 82) (82 : Int32).toNatClampNeg (0 : Int32))))]) H := hP
  have hD : va_D A ([(x0, .inr (6, fs)), (x1, .inl (c1, 91, .inr (.inl f1))), (q, .inl (cq, 91, .inl (upd (tbI fmL 82) (82 : Int32).toNatClampNeg (0 : Int32))))]) := hD
  rw [tbI_s (L := fmL) (k := 82) (i := (82 : Int32)) (v := (0 : Int32)) rfl rfl] at hP hD
  refine lv_dup hx hb d_D_init_1057 rfl ?_
  refine lv_bipush (v := (83 : Int32)) hx hb d_D_init_1058 (by decide) ?_
  refine lv_iconst (v := (0 : Int32)) hx hb d_D_init_1060 (by decide) ?_
  refine va_iast hx hb hK hP hD hS 2 1 rfl rfl (by unfold vp_in; decide) d_D_init_1061 (fun H locs hP hD hS => ?_)
  have hP : va_P D vwCl ([(x0, .inr (6, fs)), (x1, .inl (c1, 91, .inr (.inl f1))), (q, .inl (cq, 91, .inl (upd (tbI fmL 83) (83 : Int32).toNatClampNeg (0 : Int32))))]) H := hP
  have hD : va_D A ([(x0, .inr (6, fs)), (x1, .inl (c1, 91, .inr (.inl f1))), (q, .inl (cq, 91, .inl (upd (tbI fmL 83) (83 : Int32).toNatClampNeg (0 : Int32))))]) := hD
  rw [tbI_s (L := fmL) (k := 83) (i := (83 : Int32)) (v := (0 : Int32)) rfl rfl] at hP hD
  refine lv_dup hx hb d_D_init_1062 rfl ?_
  refine lv_bipush (v := (84 : Int32)) hx hb d_D_init_1063 (by decide) ?_
  refine lv_iconst (v := (0 : Int32)) hx hb d_D_init_1065 (by decide) ?_
  refine va_iast hx hb hK hP hD hS 2 1 rfl rfl (by unfold vp_in; decide) d_D_init_1066 (fun H locs hP hD hS => ?_)
  have hP : va_P D vwCl ([(x0, .inr (6, fs)), (x1, .inl (c1, 91, .inr (.inl f1))), (q, .inl (cq, 91, .inl (upd (tbI fmL 84) (84 : Int32).toNatClampNeg (0 : Int32))))]) H := hP
  have hD : va_D A ([(x0, .inr (6, fs)), (x1, .inl (c1, 91, .inr (.inl f1))), (q, .inl (cq, 91, .inl (upd (tbI fmL 84) (84 : Int32).toNatClampNeg (0 : Int32))))]) := hD
  rw [tbI_s (L := fmL) (k := 84) (i := (84 : Int32)) (v := (0 : Int32)) rfl rfl] at hP hD
  refine lv_dup hx hb d_D_init_1067 rfl ?_
  refine lv_bipush (v := (85 : Int32)) hx hb d_D_init_1068 (by decide) ?_
  refine lv_iconst (v := (0 : Int32)) hx hb d_D_init_1070 (by decide) ?_
  refine va_iast hx hb hK hP hD hS 2 1 rfl rfl (by unfold vp_in; decide) d_D_init_1071 (fun H locs hP hD hS => ?_)
  have hP : va_P D vwCl ([(x0, .inr (6, fs)), (x1, .inl (c1, 91, .inr (.inl f1))), (q, .inl (cq, 91, .inl (upd (tbI fmL 85) (85 : Int32).toNatClampNeg (0 : Int32))))]) H := hP
  have hD : va_D A ([(x0, .inr (6, fs)), (x1, .inl (c1, 91, .inr (.inl f1))), (q, .inl (cq, 91, .inl (upd (tbI fmL 85) (85 : Int32).toNatClampNeg (0 : Int32))))]) := hD
  rw [tbI_s (L := fmL) (k := 85) (i := (85 : Int32)) (v := (0 : Int32)) rfl rfl] at hP hD
  refine lv_dup hx hb d_D_init_1072 rfl ?_
  refine lv_bipush (v := (86 : Int32)) hx hb d_D_init_1073 (by decide) ?_
  refine lv_bipush (v := (6 : Int32)) hx hb d_D_init_1075 (by decide) ?_
  refine va_iast hx hb hK hP hD hS 2 1 rfl rfl (by unfold vp_in; decide) d_D_init_1077 (fun H locs hP hD hS => ?_)
  have hP : va_P D vwCl ([(x0, .inr (6, fs)), (x1, .inl (c1, 91, .inr (.inl f1))), (q, .inl (cq, 91, .inl (upd (tbI fmL 86) (86 : Int32).toNatClampNeg (6 : Int32))))]) H := hP
  have hD : va_D A ([(x0, .inr (6, fs)), (x1, .inl (c1, 91, .inr (.inl f1))), (q, .inl (cq, 91, .inl (upd (tbI fmL 86) (86 : Int32).toNatClampNeg (6 : Int32))))]) := hD
  rw [tbI_s (L := fmL) (k := 86) (i := (86 : Int32)) (v := (6 : Int32)) rfl rfl] at hP hD
  refine lv_dup hx hb d_D_init_1078 rfl ?_
  refine lv_bipush (v := (87 : Int32)) hx hb d_D_init_1079 (by decide) ?_
  refine lv_bipush (v := (6 : Int32)) hx hb d_D_init_1081 (by decide) ?_
  refine va_iast hx hb hK hP hD hS 2 1 rfl rfl (by unfold vp_in; decide) d_D_init_1083 (fun H locs hP hD hS => ?_)
  have hP : va_P D vwCl ([(x0, .inr (6, fs)), (x1, .inl (c1, 91, .inr (.inl f1))), (q, .inl (cq, 91, .inl (upd (tbI fmL 87) (87 : Int32).toNatClampNeg (6 : Int32))))]) H := hP
  have hD : va_D A ([(x0, .inr (6, fs)), (x1, .inl (c1, 91, .inr (.inl f1))), (q, .inl (cq, 91, .inl (upd (tbI fmL 87) (87 : Int32).toNatClampNeg (6 : Int32))))]) := hD
  rw [tbI_s (L := fmL) (k := 87) (i := (87 : Int32)) (v := (6 : Int32)) rfl rfl] at hP hD
  refine lv_dup hx hb d_D_init_1084 rfl ?_
  refine lv_bipush (v := (88 : Int32)) hx hb d_D_init_1085 (by decide) ?_
  refine lv_bipush (v := (6 : Int32)) hx hb d_D_init_1087 (by decide) ?_
  refine va_iast hx hb hK hP hD hS 2 1 rfl rfl (by unfold vp_in; decide) d_D_init_1089 (fun H locs hP hD hS => ?_)
  have hP : va_P D vwCl ([(x0, .inr (6, fs)), (x1, .inl (c1, 91, .inr (.inl f1))), (q, .inl (cq, 91, .inl (upd (tbI fmL 88) (88 : Int32).toNatClampNeg (6 : Int32))))]) H := hP
  have hD : va_D A ([(x0, .inr (6, fs)), (x1, .inl (c1, 91, .inr (.inl f1))), (q, .inl (cq, 91, .inl (upd (tbI fmL 88) (88 : Int32).toNatClampNeg (6 : Int32))))]) := hD
  rw [tbI_s (L := fmL) (k := 88) (i := (88 : Int32)) (v := (6 : Int32)) rfl rfl] at hP hD
  refine lv_dup hx hb d_D_init_1090 rfl ?_
  refine lv_bipush (v := (89 : Int32)) hx hb d_D_init_1091 (by decide) ?_
  refine lv_bipush (v := (6 : Int32)) hx hb d_D_init_1093 (by decide) ?_
  refine va_iast hx hb hK hP hD hS 2 1 rfl rfl (by unfold vp_in; decide) d_D_init_1095 (fun H locs hP hD hS => ?_)
  have hP : va_P D vwCl ([(x0, .inr (6, fs)), (x1, .inl (c1, 91, .inr (.inl f1))), (q, .inl (cq, 91, .inl (upd (tbI fmL 89) (89 : Int32).toNatClampNeg (6 : Int32))))]) H := hP
  have hD : va_D A ([(x0, .inr (6, fs)), (x1, .inl (c1, 91, .inr (.inl f1))), (q, .inl (cq, 91, .inl (upd (tbI fmL 89) (89 : Int32).toNatClampNeg (6 : Int32))))]) := hD
  rw [tbI_s (L := fmL) (k := 89) (i := (89 : Int32)) (v := (6 : Int32)) rfl rfl] at hP hD
  refine lv_dup hx hb d_D_init_1096 rfl ?_
  refine lv_bipush (v := (90 : Int32)) hx hb d_D_init_1097 (by decide) ?_
  refine lv_bipush (v := (7 : Int32)) hx hb d_D_init_1099 (by decide) ?_
  refine va_iast hx hb hK hP hD hS 2 1 rfl rfl (by unfold vp_in; decide) d_D_init_1101 (fun H locs hP hD hS => ?_)
  have hP : va_P D vwCl ([(x0, .inr (6, fs)), (x1, .inl (c1, 91, .inr (.inl f1))), (q, .inl (cq, 91, .inl (upd (tbI fmL 90) (90 : Int32).toNatClampNeg (7 : Int32))))]) H := hP
  have hD : va_D A ([(x0, .inr (6, fs)), (x1, .inl (c1, 91, .inr (.inl f1))), (q, .inl (cq, 91, .inl (upd (tbI fmL 90) (90 : Int32).toNatClampNeg (7 : Int32))))]) := hD
  rw [tbI_s (L := fmL) (k := 90) (i := (90 : Int32)) (v := (7 : Int32)) rfl rfl] at hP hD
  exact kk H locs hP hD hS
set_option maxHeartbeats 4000000 in
set_option maxRecDepth 100000 in
theorem ch_D_init_1110 {p : Program} {l : Launch} {e : Env} {R : Room} {s : State} {m : MethodId} {args : Array Value} {below : List Frame} {meth : Method} {c : Code} {H : Heap} {locs : List Loc} {cells slots : Nat} {Q : State → Prop} {ls : Array Slot} {D : va_G} {A : Nat → Prop} {fs : List Value} {x0 : Nat} {x1 : Nat} {c1 : ClassId} {f1 : Nat → Int64} {x2 : Nat} {c2 : ClassId} {f2 : Nat → Int32} {q : Nat} {cq : ClassId} {rest : List Value} (hx : p.tables.exec = Jvm.exec) (hb : c.code = c_D_init) (hown : s.vm.findClass "WindowMachineModel" = some m.cls) (ht : ∀ w9 ∈ zT, w9.before args s = true) (hK : va_K D vwCl [(c1, .long), (c2, .int), (cq, .int)] s) (hP : va_P D vwCl [(x0, .inr (6, fs)), (x1, .inl (c1, 91, .inr (.inl f1))), (x2, .inl (c2, 91, .inl f2)), (q, .inl (cq, 91, .inl (tbI cdL 0)))] H) (hD : va_D A [(x0, .inr (6, fs)), (x1, .inl (c1, 91, .inr (.inl f1))), (x2, .inl (c2, 91, .inl f2)), (q, .inl (cq, 91, .inl (tbI cdL 0)))]) (hS : va_S A s.heap H locs)
    (kk : ∀ (H : Heap) (locs : List Loc), va_P D vwCl [(x0, .inr (6, fs)), (x1, .inl (c1, 91, .inr (.inl f1))), (x2, .inl (c2, 91, .inl f2)), (q, .inl (cq, 91, .inl (tbI cdL 13)))] H → va_D A [(x0, .inr (6, fs)), (x1, .inl (c1, 91, .inr (.inl f1))), (x2, .inl (c2, 91, .inl f2)), (q, .inl (cq, 91, .inl (tbI cdL 13)))] → va_S A s.heap H locs → W p l e R s m args below meth c H locs cells slots Q (F0 m 1195 ls (.ref q :: rest))) : W p l e R s m args below meth c H locs cells slots Q (F0 m 1110 ls (.ref q :: rest)) := by
  refine lv_dup hx hb d_D_init_1110 rfl ?_
  refine lv_iconst (v := (0 : Int32)) hx hb d_D_init_1111 (by decide) ?_
  refine lv_sipush (v := (128 : Int32)) hx hb d_D_init_1112 (by decide) ?_
  refine va_iast hx hb hK hP hD hS 3 2 rfl rfl (by unfold vp_in; decide) d_D_init_1115 (fun H locs hP hD hS => ?_)
  have hP : va_P D vwCl ([(x0, .inr (6, fs)), (x1, .inl (c1, 91, .inr (.inl f1))), (x2, .inl (c2, 91, .inl f2)), (q, .inl (cq, 91, .inl (upd (tbI cdL 0) (0 : Int32).toNatClampNeg (128 : Int32))))]) H := hP
  have hD : va_D A ([(x0, .inr (6, fs)), (x1, .inl (c1, 91, .inr (.inl f1))), (x2, .inl (c2, 91, .inl f2)), (q, .inl (cq, 91, .inl (upd (tbI cdL 0) (0 : Int32).toNatClampNeg (128 : Int32))))]) := hD
  rw [tbI_s (L := cdL) (k := 0) (i := (0 : Int32)) (v := (128 : Int32)) rfl rfl] at hP hD
  refine lv_dup hx hb d_D_init_1116 rfl ?_
  refine lv_iconst (v := (1 : Int32)) hx hb d_D_init_1117 (by decide) ?_
  refine lv_sipush (v := (144 : Int32)) hx hb d_D_init_1118 (by decide) ?_
  refine va_iast hx hb hK hP hD hS 3 2 rfl rfl (by unfold vp_in; decide) d_D_init_1121 (fun H locs hP hD hS => ?_)
  have hP : va_P D vwCl ([(x0, .inr (6, fs)), (x1, .inl (c1, 91, .inr (.inl f1))), (x2, .inl (c2, 91, .inl f2)), (q, .inl (cq, 91, .inl (upd (tbI cdL 1) (1 : Int32).toNatClampNeg (144 : Int32))))]) H := hP
  have hD : va_D A ([(x0, .inr (6, fs)), (x1, .inl (c1, 91, .inr (.inl f1))), (x2, .inl (c2, 91, .inl f2)), (q, .inl (cq, 91, .inl (upd (tbI cdL 1) (1 : Int32).toNatClampNeg (144 : Int32))))]) := hD
  rw [tbI_s (L := cdL) (k := 1) (i := (1 : Int32)) (v := (144 : Int32)) rfl rfl] at hP hD
  refine lv_dup hx hb d_D_init_1122 rfl ?_
  refine lv_iconst (v := (2 : Int32)) hx hb d_D_init_1123 (by decide) ?_
  refine lv_sipush (v := (129 : Int32)) hx hb d_D_init_1124 (by decide) ?_
  refine va_iast hx hb hK hP hD hS 3 2 rfl rfl (by unfold vp_in; decide) d_D_init_1127 (fun H locs hP hD hS => ?_)
  have hP : va_P D vwCl ([(x0, .inr (6, fs)), (x1, .inl (c1, 91, .inr (.inl f1))), (x2, .inl (c2, 91, .inl f2)), (q, .inl (cq, 91, .inl (upd (tbI cdL 2) (2 : Int32).toNatClampNeg (129 : Int32))))]) H := hP
  have hD : va_D A ([(x0, .inr (6, fs)), (x1, .inl (c1, 91, .inr (.inl f1))), (x2, .inl (c2, 91, .inl f2)), (q, .inl (cq, 91, .inl (upd (tbI cdL 2) (2 : Int32).toNatClampNeg (129 : Int32))))]) := hD
  rw [tbI_s (L := cdL) (k := 2) (i := (2 : Int32)) (v := (129 : Int32)) rfl rfl] at hP hD
  refine lv_dup hx hb d_D_init_1128 rfl ?_
  refine lv_iconst (v := (3 : Int32)) hx hb d_D_init_1129 (by decide) ?_
  refine lv_sipush (v := (145 : Int32)) hx hb d_D_init_1130 (by decide) ?_
  refine va_iast hx hb hK hP hD hS 3 2 rfl rfl (by unfold vp_in; decide) d_D_init_1133 (fun H locs hP hD hS => ?_)
  have hP : va_P D vwCl ([(x0, .inr (6, fs)), (x1, .inl (c1, 91, .inr (.inl f1))), (x2, .inl (c2, 91, .inl f2)), (q, .inl (cq, 91, .inl (upd (tbI cdL 3) (3 : Int32).toNatClampNeg (145 : Int32))))]) H := hP
  have hD : va_D A ([(x0, .inr (6, fs)), (x1, .inl (c1, 91, .inr (.inl f1))), (x2, .inl (c2, 91, .inl f2)), (q, .inl (cq, 91, .inl (upd (tbI cdL 3) (3 : Int32).toNatClampNeg (145 : Int32))))]) := hD
  rw [tbI_s (L := cdL) (k := 3) (i := (3 : Int32)) (v := (145 : Int32)) rfl rfl] at hP hD
  refine lv_dup hx hb d_D_init_1134 rfl ?_
  refine lv_iconst (v := (4 : Int32)) hx hb d_D_init_1135 (by decide) ?_
  refine lv_sipush (v := (130 : Int32)) hx hb d_D_init_1136 (by decide) ?_
  refine va_iast hx hb hK hP hD hS 3 2 rfl rfl (by unfold vp_in; decide) d_D_init_1139 (fun H locs hP hD hS => ?_)
  have hP : va_P D vwCl ([(x0, .inr (6, fs)), (x1, .inl (c1, 91, .inr (.inl f1))), (x2, .inl (c2, 91, .inl f2)), (q, .inl (cq, 91, .inl (upd (tbI cdL 4) (4 : Int32).toNatClampNeg (130 : Int32))))]) H := hP
  have hD : va_D A ([(x0, .inr (6, fs)), (x1, .inl (c1, 91, .inr (.inl f1))), (x2, .inl (c2, 91, .inl f2)), (q, .inl (cq, 91, .inl (upd (tbI cdL 4) (4 : Int32).toNatClampNeg (130 : Int32))))]) := hD
  rw [tbI_s (L := cdL) (k := 4) (i := (4 : Int32)) (v := (130 : Int32)) rfl rfl] at hP hD
  refine lv_dup hx hb d_D_init_1140 rfl ?_
  refine lv_iconst (v := (5 : Int32)) hx hb d_D_init_1141 (by decide) ?_
  refine lv_sipush (v := (146 : Int32)) hx hb d_D_init_1142 (by decide) ?_
  refine va_iast hx hb hK hP hD hS 3 2 rfl rfl (by unfold vp_in; decide) d_D_init_1145 (fun H locs hP hD hS => ?_)
  have hP : va_P D vwCl ([(x0, .inr (6, fs)), (x1, .inl (c1, 91, .inr (.inl f1))), (x2, .inl (c2, 91, .inl f2)), (q, .inl (cq, 91, .inl (upd (tbI cdL 5) (5 : Int32).toNatClampNeg (146 : Int32))))]) H := hP
  have hD : va_D A ([(x0, .inr (6, fs)), (x1, .inl (c1, 91, .inr (.inl f1))), (x2, .inl (c2, 91, .inl f2)), (q, .inl (cq, 91, .inl (upd (tbI cdL 5) (5 : Int32).toNatClampNeg (146 : Int32))))]) := hD
  rw [tbI_s (L := cdL) (k := 5) (i := (5 : Int32)) (v := (146 : Int32)) rfl rfl] at hP hD
  refine lv_dup hx hb d_D_init_1146 rfl ?_
  refine lv_bipush (v := (6 : Int32)) hx hb d_D_init_1147 (by decide) ?_
  refine lv_sipush (v := (131 : Int32)) hx hb d_D_init_1149 (by decide) ?_
  refine va_iast hx hb hK hP hD hS 3 2 rfl rfl (by unfold vp_in; decide) d_D_init_1152 (fun H locs hP hD hS => ?_)
  have hP : va_P D vwCl ([(x0, .inr (6, fs)), (x1, .inl (c1, 91, .inr (.inl f1))), (x2, .inl (c2, 91, .inl f2)), (q, .inl (cq, 91, .inl (upd (tbI cdL 6) (6 : Int32).toNatClampNeg (131 : Int32))))]) H := hP
  have hD : va_D A ([(x0, .inr (6, fs)), (x1, .inl (c1, 91, .inr (.inl f1))), (x2, .inl (c2, 91, .inl f2)), (q, .inl (cq, 91, .inl (upd (tbI cdL 6) (6 : Int32).toNatClampNeg (131 : Int32))))]) := hD
  rw [tbI_s (L := cdL) (k := 6) (i := (6 : Int32)) (v := (131 : Int32)) rfl rfl] at hP hD
  refine lv_dup hx hb d_D_init_1153 rfl ?_
  refine lv_bipush (v := (7 : Int32)) hx hb d_D_init_1154 (by decide) ?_
  refine lv_sipush (v := (147 : Int32)) hx hb d_D_init_1156 (by decide) ?_
  refine va_iast hx hb hK hP hD hS 3 2 rfl rfl (by unfold vp_in; decide) d_D_init_1159 (fun H locs hP hD hS => ?_)
  have hP : va_P D vwCl ([(x0, .inr (6, fs)), (x1, .inl (c1, 91, .inr (.inl f1))), (x2, .inl (c2, 91, .inl f2)), (q, .inl (cq, 91, .inl (upd (tbI cdL 7) (7 : Int32).toNatClampNeg (147 : Int32))))]) H := hP
  have hD : va_D A ([(x0, .inr (6, fs)), (x1, .inl (c1, 91, .inr (.inl f1))), (x2, .inl (c2, 91, .inl f2)), (q, .inl (cq, 91, .inl (upd (tbI cdL 7) (7 : Int32).toNatClampNeg (147 : Int32))))]) := hD
  rw [tbI_s (L := cdL) (k := 7) (i := (7 : Int32)) (v := (147 : Int32)) rfl rfl] at hP hD
  refine lv_dup hx hb d_D_init_1160 rfl ?_
  refine lv_bipush (v := (8 : Int32)) hx hb d_D_init_1161 (by decide) ?_
  refine lv_sipush (v := (132 : Int32)) hx hb d_D_init_1163 (by decide) ?_
  refine va_iast hx hb hK hP hD hS 3 2 rfl rfl (by unfold vp_in; decide) d_D_init_1166 (fun H locs hP hD hS => ?_)
  have hP : va_P D vwCl ([(x0, .inr (6, fs)), (x1, .inl (c1, 91, .inr (.inl f1))), (x2, .inl (c2, 91, .inl f2)), (q, .inl (cq, 91, .inl (upd (tbI cdL 8) (8 : Int32).toNatClampNeg (132 : Int32))))]) H := hP
  have hD : va_D A ([(x0, .inr (6, fs)), (x1, .inl (c1, 91, .inr (.inl f1))), (x2, .inl (c2, 91, .inl f2)), (q, .inl (cq, 91, .inl (upd (tbI cdL 8) (8 : Int32).toNatClampNeg (132 : Int32))))]) := hD
  rw [tbI_s (L := cdL) (k := 8) (i := (8 : Int32)) (v := (132 : Int32)) rfl rfl] at hP hD
  refine lv_dup hx hb d_D_init_1167 rfl ?_
  refine lv_bipush (v := (9 : Int32)) hx hb d_D_init_1168 (by decide) ?_
  refine lv_sipush (v := (148 : Int32)) hx hb d_D_init_1170 (by decide) ?_
  refine va_iast hx hb hK hP hD hS 3 2 rfl rfl (by unfold vp_in; decide) d_D_init_1173 (fun H locs hP hD hS => ?_)
  have hP : va_P D vwCl ([(x0, .inr (6, fs)), (x1, .inl (c1, 91, .inr (.inl f1))), (x2, .inl (c2, 91, .inl f2)), (q, .inl (cq, 91, .inl (upd (tbI cdL 9) (9 : Int32).toNatClampNeg (148 : Int32))))]) H := hP
  have hD : va_D A ([(x0, .inr (6, fs)), (x1, .inl (c1, 91, .inr (.inl f1))), (x2, .inl (c2, 91, .inl f2)), (q, .inl (cq, 91, .inl (upd (tbI cdL 9) (9 : Int32).toNatClampNeg (148 : Int32))))]) := hD
  rw [tbI_s (L := cdL) (k := 9) (i := (9 : Int32)) (v := (148 : Int32)) rfl rfl] at hP hD
  refine lv_dup hx hb d_D_init_1174 rfl ?_
  refine lv_bipush (v := (10 : Int32)) hx hb d_D_init_1175 (by decide) ?_
  refine lv_sipush (v := (133 : Int32)) hx hb d_D_init_1177 (by decide) ?_
  refine va_iast hx hb hK hP hD hS 3 2 rfl rfl (by unfold vp_in; decide) d_D_init_1180 (fun H locs hP hD hS => ?_)
  have hP : va_P D vwCl ([(x0, .inr (6, fs)), (x1, .inl (c1, 91, .inr (.inl f1))), (x2, .inl (c2, 91, .inl f2)), (q, .inl (cq, 91, .inl (upd (tbI cdL 10) (10 : Int32).toNatClampNeg (133 : Int32))))]) H := hP
  have hD : va_D A ([(x0, .inr (6, fs)), (x1, .inl (c1, 91, .inr (.inl f1))), (x2, .inl (c2, 91, .inl f2)), (q, .inl (cq, 91, .inl (upd (tbI cdL 10) (10 : Int32).toNatClampNeg (133 : Int32))))]) := hD
  rw [tbI_s (L := cdL) (k := 10) (i := (10 : Int32)) (v := (133 : Int32)) rfl rfl] at hP hD
  refine lv_dup hx hb d_D_init_1181 rfl ?_
  refine lv_bipush (v := (11 : Int32)) hx hb d_D_init_1182 (by decide) ?_
  refine lv_sipush (v := (149 : Int32)) hx hb d_D_init_1184 (by decide) ?_
  refine va_iast hx hb hK hP hD hS 3 2 rfl rfl (by unfold vp_in; decide) d_D_init_1187 (fun H locs hP hD hS => ?_)
  have hP : va_P D vwCl ([(x0, .inr (6, fs)), (x1, .inl (c1, 91, .inr (.inl f1))), (x2, .inl (c2, 91, .inl f2)), (q, .inl (cq, 91, .inl (upd (tbI cdL 11) (11 : Int32).toNatClampNeg (149 : Int32))))]) H := hP
  have hD : va_D A ([(x0, .inr (6, fs)), (x1, .inl (c1, 91, .inr (.inl f1))), (x2, .inl (c2, 91, .inl f2)), (q, .inl (cq, 91, .inl (upd (tbI cdL 11) (11 : Int32).toNatClampNeg (149 : Int32))))]) := hD
  rw [tbI_s (L := cdL) (k := 11) (i := (11 : Int32)) (v := (149 : Int32)) rfl rfl] at hP hD
  refine lv_dup hx hb d_D_init_1188 rfl ?_
  refine lv_bipush (v := (12 : Int32)) hx hb d_D_init_1189 (by decide) ?_
  refine lv_sipush (v := (134 : Int32)) hx hb d_D_init_1191 (by decide) ?_
  refine va_iast hx hb hK hP hD hS 3 2 rfl rfl (by unfold vp_in; decide) d_D_init_1194 (fun H locs hP hD hS => ?_)
  have hP : va_P D vwCl ([(x0, .inr (6, fs)), (x1, .inl (c1, 91, .inr (.inl f1))), (x2, .inl (c2, 91, .inl f2)), (q, .inl (cq, 91, .inl (upd (tbI cdL 12) (12 : Int32).toNatClampNeg (134 : Int32))))]) H := hP
  have hD : va_D A ([(x0, .inr (6, fs)), (x1, .inl (c1, 91, .inr (.inl f1))), (x2, .inl (c2, 91, .inl f2)), (q, .inl (cq, 91, .inl (upd (tbI cdL 12) (12 : Int32).toNatClampNeg (134 : Int32))))]) := hD
  rw [tbI_s (L := cdL) (k := 12) (i := (12 : Int32)) (v := (134 : Int32)) rfl rfl] at hP hD
  exact kk H locs hP hD hS
set_option maxHeartbeats 4000000 in
set_option maxRecDepth 100000 in
theorem ch_D_init_1195 {p : Program} {l : Launch} {e : Env} {R : Room} {s : State} {m : MethodId} {args : Array Value} {below : List Frame} {meth : Method} {c : Code} {H : Heap} {locs : List Loc} {cells slots : Nat} {Q : State → Prop} {ls : Array Slot} {D : va_G} {A : Nat → Prop} {fs : List Value} {x0 : Nat} {x1 : Nat} {c1 : ClassId} {f1 : Nat → Int64} {x2 : Nat} {c2 : ClassId} {f2 : Nat → Int32} {q : Nat} {cq : ClassId} {rest : List Value} (hx : p.tables.exec = Jvm.exec) (hb : c.code = c_D_init) (hown : s.vm.findClass "WindowMachineModel" = some m.cls) (ht : ∀ w9 ∈ zT, w9.before args s = true) (hK : va_K D vwCl [(c1, .long), (c2, .int), (cq, .int)] s) (hP : va_P D vwCl [(x0, .inr (6, fs)), (x1, .inl (c1, 91, .inr (.inl f1))), (x2, .inl (c2, 91, .inl f2)), (q, .inl (cq, 91, .inl (tbI cdL 13)))] H) (hD : va_D A [(x0, .inr (6, fs)), (x1, .inl (c1, 91, .inr (.inl f1))), (x2, .inl (c2, 91, .inl f2)), (q, .inl (cq, 91, .inl (tbI cdL 13)))]) (hS : va_S A s.heap H locs)
    (kk : ∀ (H : Heap) (locs : List Loc), va_P D vwCl [(x0, .inr (6, fs)), (x1, .inl (c1, 91, .inr (.inl f1))), (x2, .inl (c2, 91, .inl f2)), (q, .inl (cq, 91, .inl (tbI cdL 26)))] H → va_D A [(x0, .inr (6, fs)), (x1, .inl (c1, 91, .inr (.inl f1))), (x2, .inl (c2, 91, .inl f2)), (q, .inl (cq, 91, .inl (tbI cdL 26)))] → va_S A s.heap H locs → W p l e R s m args below meth c H locs cells slots Q (F0 m 1286 ls (.ref q :: rest))) : W p l e R s m args below meth c H locs cells slots Q (F0 m 1195 ls (.ref q :: rest)) := by
  refine lv_dup hx hb d_D_init_1195 rfl ?_
  refine lv_bipush (v := (13 : Int32)) hx hb d_D_init_1196 (by decide) ?_
  refine lv_sipush (v := (150 : Int32)) hx hb d_D_init_1198 (by decide) ?_
  refine va_iast hx hb hK hP hD hS 3 2 rfl rfl (by unfold vp_in; decide) d_D_init_1201 (fun H locs hP hD hS => ?_)
  have hP : va_P D vwCl ([(x0, .inr (6, fs)), (x1, .inl (c1, 91, .inr (.inl f1))), (x2, .inl (c2, 91, .inl f2)), (q, .inl (cq, 91, .inl (upd (tbI cdL 13) (13 : Int32).toNatClampNeg (150 : Int32))))]) H := hP
  have hD : va_D A ([(x0, .inr (6, fs)), (x1, .inl (c1, 91, .inr (.inl f1))), (x2, .inl (c2, 91, .inl f2)), (q, .inl (cq, 91, .inl (upd (tbI cdL 13) (13 : Int32).toNatClampNeg (150 : Int32))))]) := hD
  rw [tbI_s (L := cdL) (k := 13) (i := (13 : Int32)) (v := (150 : Int32)) rfl rfl] at hP hD
  refine lv_dup hx hb d_D_init_1202 rfl ?_
  refine lv_bipush (v := (14 : Int32)) hx hb d_D_init_1203 (by decide) ?_
  refine lv_sipush (v := (135 : Int32)) hx hb d_D_init_1205 (by decide) ?_
  refine va_iast hx hb hK hP hD hS 3 2 rfl rfl (by unfold vp_in; decide) d_D_init_1208 (fun H locs hP hD hS => ?_)
  have hP : va_P D vwCl ([(x0, .inr (6, fs)), (x1, .inl (c1, 91, .inr (.inl f1))), (x2, .inl (c2, 91, .inl f2)), (q, .inl (cq, 91, .inl (upd (tbI cdL 14) (14 : Int32).toNatClampNeg (135 : Int32))))]) H := hP
  have hD : va_D A ([(x0, .inr (6, fs)), (x1, .inl (c1, 91, .inr (.inl f1))), (x2, .inl (c2, 91, .inl f2)), (q, .inl (cq, 91, .inl (upd (tbI cdL 14) (14 : Int32).toNatClampNeg (135 : Int32))))]) := hD
  rw [tbI_s (L := cdL) (k := 14) (i := (14 : Int32)) (v := (135 : Int32)) rfl rfl] at hP hD
  refine lv_dup hx hb d_D_init_1209 rfl ?_
  refine lv_bipush (v := (15 : Int32)) hx hb d_D_init_1210 (by decide) ?_
  refine lv_sipush (v := (151 : Int32)) hx hb d_D_init_1212 (by decide) ?_
  refine va_iast hx hb hK hP hD hS 3 2 rfl rfl (by unfold vp_in; decide) d_D_init_1215 (fun H locs hP hD hS => ?_)
  have hP : va_P D vwCl ([(x0, .inr (6, fs)), (x1, .inl (c1, 91, .inr (.inl f1))), (x2, .inl (c2, 91, .inl f2)), (q, .inl (cq, 91, .inl (upd (tbI cdL 15) (15 : Int32).toNatClampNeg (151 : Int32))))]) H := hP
  have hD : va_D A ([(x0, .inr (6, fs)), (x1, .inl (c1, 91, .inr (.inl f1))), (x2, .inl (c2, 91, .inl f2)), (q, .inl (cq, 91, .inl (upd (tbI cdL 15) (15 : Int32).toNatClampNeg (151 : Int32))))]) := hD
  rw [tbI_s (L := cdL) (k := 15) (i := (15 : Int32)) (v := (151 : Int32)) rfl rfl] at hP hD
  refine lv_dup hx hb d_D_init_1216 rfl ?_
  refine lv_bipush (v := (16 : Int32)) hx hb d_D_init_1217 (by decide) ?_
  refine lv_sipush (v := (136 : Int32)) hx hb d_D_init_1219 (by decide) ?_
  refine va_iast hx hb hK hP hD hS 3 2 rfl rfl (by unfold vp_in; decide) d_D_init_1222 (fun H locs hP hD hS => ?_)
  have hP : va_P D vwCl ([(x0, .inr (6, fs)), (x1, .inl (c1, 91, .inr (.inl f1))), (x2, .inl (c2, 91, .inl f2)), (q, .inl (cq, 91, .inl (upd (tbI cdL 16) (16 : Int32).toNatClampNeg (136 : Int32))))]) H := hP
  have hD : va_D A ([(x0, .inr (6, fs)), (x1, .inl (c1, 91, .inr (.inl f1))), (x2, .inl (c2, 91, .inl f2)), (q, .inl (cq, 91, .inl (upd (tbI cdL 16) (16 : Int32).toNatClampNeg (136 : Int32))))]) := hD
  rw [tbI_s (L := cdL) (k := 16) (i := (16 : Int32)) (v := (136 : Int32)) rfl rfl] at hP hD
  refine lv_dup hx hb d_D_init_1223 rfl ?_
  refine lv_bipush (v := (17 : Int32)) hx hb d_D_init_1224 (by decide) ?_
  refine lv_sipush (v := (152 : Int32)) hx hb d_D_init_1226 (by decide) ?_
  refine va_iast hx hb hK hP hD hS 3 2 rfl rfl (by unfold vp_in; decide) d_D_init_1229 (fun H locs hP hD hS => ?_)
  have hP : va_P D vwCl ([(x0, .inr (6, fs)), (x1, .inl (c1, 91, .inr (.inl f1))), (x2, .inl (c2, 91, .inl f2)), (q, .inl (cq, 91, .inl (upd (tbI cdL 17) (17 : Int32).toNatClampNeg (152 : Int32))))]) H := hP
  have hD : va_D A ([(x0, .inr (6, fs)), (x1, .inl (c1, 91, .inr (.inl f1))), (x2, .inl (c2, 91, .inl f2)), (q, .inl (cq, 91, .inl (upd (tbI cdL 17) (17 : Int32).toNatClampNeg (152 : Int32))))]) := hD
  rw [tbI_s (L := cdL) (k := 17) (i := (17 : Int32)) (v := (152 : Int32)) rfl rfl] at hP hD
  refine lv_dup hx hb d_D_init_1230 rfl ?_
  refine lv_bipush (v := (18 : Int32)) hx hb d_D_init_1231 (by decide) ?_
  refine lv_sipush (v := (140 : Int32)) hx hb d_D_init_1233 (by decide) ?_
  refine va_iast hx hb hK hP hD hS 3 2 rfl rfl (by unfold vp_in; decide) d_D_init_1236 (fun H locs hP hD hS => ?_)
  have hP : va_P D vwCl ([(x0, .inr (6, fs)), (x1, .inl (c1, 91, .inr (.inl f1))), (x2, .inl (c2, 91, .inl f2)), (q, .inl (cq, 91, .inl (upd (tbI cdL 18) (18 : Int32).toNatClampNeg (140 : Int32))))]) H := hP
  have hD : va_D A ([(x0, .inr (6, fs)), (x1, .inl (c1, 91, .inr (.inl f1))), (x2, .inl (c2, 91, .inl f2)), (q, .inl (cq, 91, .inl (upd (tbI cdL 18) (18 : Int32).toNatClampNeg (140 : Int32))))]) := hD
  rw [tbI_s (L := cdL) (k := 18) (i := (18 : Int32)) (v := (140 : Int32)) rfl rfl] at hP hD
  refine lv_dup hx hb d_D_init_1237 rfl ?_
  refine lv_bipush (v := (19 : Int32)) hx hb d_D_init_1238 (by decide) ?_
  refine lv_sipush (v := (156 : Int32)) hx hb d_D_init_1240 (by decide) ?_
  refine va_iast hx hb hK hP hD hS 3 2 rfl rfl (by unfold vp_in; decide) d_D_init_1243 (fun H locs hP hD hS => ?_)
  have hP : va_P D vwCl ([(x0, .inr (6, fs)), (x1, .inl (c1, 91, .inr (.inl f1))), (x2, .inl (c2, 91, .inl f2)), (q, .inl (cq, 91, .inl (upd (tbI cdL 19) (19 : Int32).toNatClampNeg (156 : Int32))))]) H := hP
  have hD : va_D A ([(x0, .inr (6, fs)), (x1, .inl (c1, 91, .inr (.inl f1))), (x2, .inl (c2, 91, .inl f2)), (q, .inl (cq, 91, .inl (upd (tbI cdL 19) (19 : Int32).toNatClampNeg (156 : Int32))))]) := hD
  rw [tbI_s (L := cdL) (k := 19) (i := (19 : Int32)) (v := (156 : Int32)) rfl rfl] at hP hD
  refine lv_dup hx hb d_D_init_1244 rfl ?_
  refine lv_bipush (v := (20 : Int32)) hx hb d_D_init_1245 (by decide) ?_
  refine lv_sipush (v := (138 : Int32)) hx hb d_D_init_1247 (by decide) ?_
  refine va_iast hx hb hK hP hD hS 3 2 rfl rfl (by unfold vp_in; decide) d_D_init_1250 (fun H locs hP hD hS => ?_)
  have hP : va_P D vwCl ([(x0, .inr (6, fs)), (x1, .inl (c1, 91, .inr (.inl f1))), (x2, .inl (c2, 91, .inl f2)), (q, .inl (cq, 91, .inl (upd (tbI cdL 20) (20 : Int32).toNatClampNeg (138 : Int32))))]) H := hP
  have hD : va_D A ([(x0, .inr (6, fs)), (x1, .inl (c1, 91, .inr (.inl f1))), (x2, .inl (c2, 91, .inl f2)), (q, .inl (cq, 91, .inl (upd (tbI cdL 20) (20 : Int32).toNatClampNeg (138 : Int32))))]) := hD
  rw [tbI_s (L := cdL) (k := 20) (i := (20 : Int32)) (v := (138 : Int32)) rfl rfl] at hP hD
  refine lv_dup hx hb d_D_init_1251 rfl ?_
  refine lv_bipush (v := (21 : Int32)) hx hb d_D_init_1252 (by decide) ?_
  refine lv_sipush (v := (154 : Int32)) hx hb d_D_init_1254 (by decide) ?_
  refine va_iast hx hb hK hP hD hS 3 2 rfl rfl (by unfold vp_in; decide) d_D_init_1257 (fun H locs hP hD hS => ?_)
  have hP : va_P D vwCl ([(x0, .inr (6, fs)), (x1, .inl (c1, 91, .inr (.inl f1))), (x2, .inl (c2, 91, .inl f2)), (q, .inl (cq, 91, .inl (upd (tbI cdL 21) (21 : Int32).toNatClampNeg (154 : Int32))))]) H := hP
  have hD : va_D A ([(x0, .inr (6, fs)), (x1, .inl (c1, 91, .inr (.inl f1))), (x2, .inl (c2, 91, .inl f2)), (q, .inl (cq, 91, .inl (upd (tbI cdL 21) (21 : Int32).toNatClampNeg (154 : Int32))))]) := hD
  rw [tbI_s (L := cdL) (k := 21) (i := (21 : Int32)) (v := (154 : Int32)) rfl rfl] at hP hD
  refine lv_dup hx hb d_D_init_1258 rfl ?_
  refine lv_bipush (v := (22 : Int32)) hx hb d_D_init_1259 (by decide) ?_
  refine lv_sipush (v := (139 : Int32)) hx hb d_D_init_1261 (by decide) ?_
  refine va_iast hx hb hK hP hD hS 3 2 rfl rfl (by unfold vp_in; decide) d_D_init_1264 (fun H locs hP hD hS => ?_)
  have hP : va_P D vwCl ([(x0, .inr (6, fs)), (x1, .inl (c1, 91, .inr (.inl f1))), (x2, .inl (c2, 91, .inl f2)), (q, .inl (cq, 91, .inl (upd (tbI cdL 22) (22 : Int32).toNatClampNeg (139 : Int32))))]) H := hP
  have hD : va_D A ([(x0, .inr (6, fs)), (x1, .inl (c1, 91, .inr (.inl f1))), (x2, .inl (c2, 91, .inl f2)), (q, .inl (cq, 91, .inl (upd (tbI cdL 22) (22 : Int32).toNatClampNeg (139 : Int32))))]) := hD
  rw [tbI_s (L := cdL) (k := 22) (i := (22 : Int32)) (v := (139 : Int32)) rfl rfl] at hP hD
  refine lv_dup hx hb d_D_init_1265 rfl ?_
  refine lv_bipush (v := (23 : Int32)) hx hb d_D_init_1266 (by decide) ?_
  refine lv_sipush (v := (155 : Int32)) hx hb d_D_init_1268 (by decide) ?_
  refine va_iast hx hb hK hP hD hS 3 2 rfl rfl (by unfold vp_in; decide) d_D_init_1271 (fun H locs hP hD hS => ?_)
  have hP : va_P D vwCl ([(x0, .inr (6, fs)), (x1, .inl (c1, 91, .inr (.inl f1))), (x2, .inl (c2, 91, .inl f2)), (q, .inl (cq, 91, .inl (upd (tbI cdL 23) (23 : Int32).toNatClampNeg (155 : Int32))))]) H := hP
  have hD : va_D A ([(x0, .inr (6, fs)), (x1, .inl (c1, 91, .inr (.inl f1))), (x2, .inl (c2, 91, .inl f2)), (q, .inl (cq, 91, .inl (upd (tbI cdL 23) (23 : Int32).toNatClampNeg (155 : Int32))))]) := hD
  rw [tbI_s (L := cdL) (k := 23) (i := (23 : Int32)) (v := (155 : Int32)) rfl rfl] at hP hD
  refine lv_dup hx hb d_D_init_1272 rfl ?_
  refine lv_bipush (v := (24 : Int32)) hx hb d_D_init_1273 (by decide) ?_
  refine lv_sipush (v := (142 : Int32)) hx hb d_D_init_1275 (by decide) ?_
  refine va_iast hx hb hK hP hD hS 3 2 rfl rfl (by unfold vp_in; decide) d_D_init_1278 (fun H locs hP hD hS => ?_)
  have hP : va_P D vwCl ([(x0, .inr (6, fs)), (x1, .inl (c1, 91, .inr (.inl f1))), (x2, .inl (c2, 91, .inl f2)), (q, .inl (cq, 91, .inl (upd (tbI cdL 24) (24 : Int32).toNatClampNeg (142 : Int32))))]) H := hP
  have hD : va_D A ([(x0, .inr (6, fs)), (x1, .inl (c1, 91, .inr (.inl f1))), (x2, .inl (c2, 91, .inl f2)), (q, .inl (cq, 91, .inl (upd (tbI cdL 24) (24 : Int32).toNatClampNeg (142 : Int32))))]) := hD
  rw [tbI_s (L := cdL) (k := 24) (i := (24 : Int32)) (v := (142 : Int32)) rfl rfl] at hP hD
  refine lv_dup hx hb d_D_init_1279 rfl ?_
  refine lv_bipush (v := (25 : Int32)) hx hb d_D_init_1280 (by decide) ?_
  refine lv_sipush (v := (158 : Int32)) hx hb d_D_init_1282 (by decide) ?_
  refine va_iast hx hb hK hP hD hS 3 2 rfl rfl (by unfold vp_in; decide) d_D_init_1285 (fun H locs hP hD hS => ?_)
  have hP : va_P D vwCl ([(x0, .inr (6, fs)), (x1, .inl (c1, 91, .inr (.inl f1))), (x2, .inl (c2, 91, .inl f2)), (q, .inl (cq, 91, .inl (upd (tbI cdL 25) (25 : Int32).toNatClampNeg (158 : Int32))))]) H := hP
  have hD : va_D A ([(x0, .inr (6, fs)), (x1, .inl (c1, 91, .inr (.inl f1))), (x2, .inl (c2, 91, .inl f2)), (q, .inl (cq, 91, .inl (upd (tbI cdL 25) (25 : Int32).toNatClampNeg (158 : Int32))))]) := hD
  rw [tbI_s (L := cdL) (k := 25) (i := (25 : Int32)) (v := (158 : Int32)) rfl rfl] at hP hD
  exact kk H locs hP hD hS
set_option maxHeartbeats 4000000 in
set_option maxRecDepth 100000 in
theorem ch_D_init_1286 {p : Program} {l : Launch} {e : Env} {R : Room} {s : State} {m : MethodId} {args : Array Value} {below : List Frame} {meth : Method} {c : Code} {H : Heap} {locs : List Loc} {cells slots : Nat} {Q : State → Prop} {ls : Array Slot} {D : va_G} {A : Nat → Prop} {fs : List Value} {x0 : Nat} {x1 : Nat} {c1 : ClassId} {f1 : Nat → Int64} {x2 : Nat} {c2 : ClassId} {f2 : Nat → Int32} {q : Nat} {cq : ClassId} {rest : List Value} (hx : p.tables.exec = Jvm.exec) (hb : c.code = c_D_init) (hown : s.vm.findClass "WindowMachineModel" = some m.cls) (ht : ∀ w9 ∈ zT, w9.before args s = true) (hK : va_K D vwCl [(c1, .long), (c2, .int), (cq, .int)] s) (hP : va_P D vwCl [(x0, .inr (6, fs)), (x1, .inl (c1, 91, .inr (.inl f1))), (x2, .inl (c2, 91, .inl f2)), (q, .inl (cq, 91, .inl (tbI cdL 26)))] H) (hD : va_D A [(x0, .inr (6, fs)), (x1, .inl (c1, 91, .inr (.inl f1))), (x2, .inl (c2, 91, .inl f2)), (q, .inl (cq, 91, .inl (tbI cdL 26)))]) (hS : va_S A s.heap H locs)
    (kk : ∀ (H : Heap) (locs : List Loc), va_P D vwCl [(x0, .inr (6, fs)), (x1, .inl (c1, 91, .inr (.inl f1))), (x2, .inl (c2, 91, .inl f2)), (q, .inl (cq, 91, .inl (tbI cdL 39)))] H → va_D A [(x0, .inr (6, fs)), (x1, .inl (c1, 91, .inr (.inl f1))), (x2, .inl (c2, 91, .inl f2)), (q, .inl (cq, 91, .inl (tbI cdL 39)))] → va_S A s.heap H locs → W p l e R s m args below meth c H locs cells slots Q (F0 m 1372 ls (.ref q :: rest))) : W p l e R s m args below meth c H locs cells slots Q (F0 m 1286 ls (.ref q :: rest)) := by
  refine lv_dup hx hb d_D_init_1286 rfl ?_
  refine lv_bipush (v := (26 : Int32)) hx hb d_D_init_1287 (by decide) ?_
  refine lv_sipush (v := (143 : Int32)) hx hb d_D_init_1289 (by decide) ?_
  refine va_iast hx hb hK hP hD hS 3 2 rfl rfl (by unfold vp_in; decide) d_D_init_1292 (fun H locs hP hD hS => ?_)
  have hP : va_P D vwCl ([(x0, .inr (6, fs)), (x1, .inl (c1, 91, .inr (.inl f1))), (x2, .inl (c2, 91, .inl f2)), (q, .inl (cq, 91, .inl (upd (tbI cdL 26) (26 : Int32).toNatClampNeg (143 : Int32))))]) H := hP
  have hD : va_D A ([(x0, .inr (6, fs)), (x1, .inl (c1, 91, .inr (.inl f1))), (x2, .inl (c2, 91, .inl f2)), (q, .inl (cq, 91, .inl (upd (tbI cdL 26) (26 : Int32).toNatClampNeg (143 : Int32))))]) := hD
  rw [tbI_s (L := cdL) (k := 26) (i := (26 : Int32)) (v := (143 : Int32)) rfl rfl] at hP hD
  refine lv_dup hx hb d_D_init_1293 rfl ?_
  refine lv_bipush (v := (27 : Int32)) hx hb d_D_init_1294 (by decide) ?_
  refine lv_sipush (v := (159 : Int32)) hx hb d_D_init_1296 (by decide) ?_
  refine va_iast hx hb hK hP hD hS 3 2 rfl rfl (by unfold vp_in; decide) d_D_init_1299 (fun H locs hP hD hS => ?_)
  have hP : va_P D vwCl ([(x0, .inr (6, fs)), (x1, .inl (c1, 91, .inr (.inl f1))), (x2, .inl (c2, 91, .inl f2)), (q, .inl (cq, 91, .inl (upd (tbI cdL 27) (27 : Int32).toNatClampNeg (159 : Int32))))]) H := hP
  have hD : va_D A ([(x0, .inr (6, fs)), (x1, .inl (c1, 91, .inr (.inl f1))), (x2, .inl (c2, 91, .inl f2)), (q, .inl (cq, 91, .inl (upd (tbI cdL 27) (27 : Int32).toNatClampNeg (159 : Int32))))]) := hD
  rw [tbI_s (L := cdL) (k := 27) (i := (27 : Int32)) (v := (159 : Int32)) rfl rfl] at hP hD
  refine lv_dup hx hb d_D_init_1300 rfl ?_
  refine lv_bipush (v := (28 : Int32)) hx hb d_D_init_1301 (by decide) ?_
  refine lv_sipush (v := (164 : Int32)) hx hb d_D_init_1303 (by decide) ?_
  refine va_iast hx hb hK hP hD hS 3 2 rfl rfl (by unfold vp_in; decide) d_D_init_1306 (fun H locs hP hD hS => ?_)
  have hP : va_P D vwCl ([(x0, .inr (6, fs)), (x1, .inl (c1, 91, .inr (.inl f1))), (x2, .inl (c2, 91, .inl f2)), (q, .inl (cq, 91, .inl (upd (tbI cdL 28) (28 : Int32).toNatClampNeg (164 : Int32))))]) H := hP
  have hD : va_D A ([(x0, .inr (6, fs)), (x1, .inl (c1, 91, .inr (.inl f1))), (x2, .inl (c2, 91, .inl f2)), (q, .inl (cq, 91, .inl (upd (tbI cdL 28) (28 : Int32).toNatClampNeg (164 : Int32))))]) := hD
  rw [tbI_s (L := cdL) (k := 28) (i := (28 : Int32)) (v := (164 : Int32)) rfl rfl] at hP hD
  refine lv_dup hx hb d_D_init_1307 rfl ?_
  refine lv_bipush (v := (29 : Int32)) hx hb d_D_init_1308 (by decide) ?_
  refine lv_sipush (v := (165 : Int32)) hx hb d_D_init_1310 (by decide) ?_
  refine va_iast hx hb hK hP hD hS 3 2 rfl rfl (by unfold vp_in; decide) d_D_init_1313 (fun H locs hP hD hS => ?_)
  have hP : va_P D vwCl ([(x0, .inr (6, fs)), (x1, .inl (c1, 91, .inr (.inl f1))), (x2, .inl (c2, 91, .inl f2)), (q, .inl (cq, 91, .inl (upd (tbI cdL 29) (29 : Int32).toNatClampNeg (165 : Int32))))]) H := hP
  have hD : va_D A ([(x0, .inr (6, fs)), (x1, .inl (c1, 91, .inr (.inl f1))), (x2, .inl (c2, 91, .inl f2)), (q, .inl (cq, 91, .inl (upd (tbI cdL 29) (29 : Int32).toNatClampNeg (165 : Int32))))]) := hD
  rw [tbI_s (L := cdL) (k := 29) (i := (29 : Int32)) (v := (165 : Int32)) rfl rfl] at hP hD
  refine lv_dup hx hb d_D_init_1314 rfl ?_
  refine lv_bipush (v := (30 : Int32)) hx hb d_D_init_1315 (by decide) ?_
  refine lv_sipush (v := (166 : Int32)) hx hb d_D_init_1317 (by decide) ?_
  refine va_iast hx hb hK hP hD hS 3 2 rfl rfl (by unfold vp_in; decide) d_D_init_1320 (fun H locs hP hD hS => ?_)
  have hP : va_P D vwCl ([(x0, .inr (6, fs)), (x1, .inl (c1, 91, .inr (.inl f1))), (x2, .inl (c2, 91, .inl f2)), (q, .inl (cq, 91, .inl (upd (tbI cdL 30) (30 : Int32).toNatClampNeg (166 : Int32))))]) H := hP
  have hD : va_D A ([(x0, .inr (6, fs)), (x1, .inl (c1, 91, .inr (.inl f1))), (x2, .inl (c2, 91, .inl f2)), (q, .inl (cq, 91, .inl (upd (tbI cdL 30) (30 : Int32).toNatClampNeg (166 : Int32))))]) := hD
  rw [tbI_s (L := cdL) (k := 30) (i := (30 : Int32)) (v := (166 : Int32)) rfl rfl] at hP hD
  refine lv_dup hx hb d_D_init_1321 rfl ?_
  refine lv_bipush (v := (31 : Int32)) hx hb d_D_init_1322 (by decide) ?_
  refine lv_sipush (v := (167 : Int32)) hx hb d_D_init_1324 (by decide) ?_
  refine va_iast hx hb hK hP hD hS 3 2 rfl rfl (by unfold vp_in; decide) d_D_init_1327 (fun H locs hP hD hS => ?_)
  have hP : va_P D vwCl ([(x0, .inr (6, fs)), (x1, .inl (c1, 91, .inr (.inl f1))), (x2, .inl (c2, 91, .inl f2)), (q, .inl (cq, 91, .inl (upd (tbI cdL 31) (31 : Int32).toNatClampNeg (167 : Int32))))]) H := hP
  have hD : va_D A ([(x0, .inr (6, fs)), (x1, .inl (c1, 91, .inr (.inl f1))), (x2, .inl (c2, 91, .inl f2)), (q, .inl (cq, 91, .inl (upd (tbI cdL 31) (31 : Int32).toNatClampNeg (167 : Int32))))]) := hD
  rw [tbI_s (L := cdL) (k := 31) (i := (31 : Int32)) (v := (167 : Int32)) rfl rfl] at hP hD
  refine lv_dup hx hb d_D_init_1328 rfl ?_
  refine lv_bipush (v := (32 : Int32)) hx hb d_D_init_1329 (by decide) ?_
  refine lv_sipush (v := (184 : Int32)) hx hb d_D_init_1331 (by decide) ?_
  refine va_iast hx hb hK hP hD hS 3 2 rfl rfl (by unfold vp_in; decide) d_D_init_1334 (fun H locs hP hD hS => ?_)
  have hP : va_P D vwCl ([(x0, .inr (6, fs)), (x1, .inl (c1, 91, .inr (.inl f1))), (x2, .inl (c2, 91, .inl f2)), (q, .inl (cq, 91, .inl (upd (tbI cdL 32) (32 : Int32).toNatClampNeg (184 : Int32))))]) H := hP
  have hD : va_D A ([(x0, .inr (6, fs)), (x1, .inl (c1, 91, .inr (.inl f1))), (x2, .inl (c2, 91, .inl f2)), (q, .inl (cq, 91, .inl (upd (tbI cdL 32) (32 : Int32).toNatClampNeg (184 : Int32))))]) := hD
  rw [tbI_s (L := cdL) (k := 32) (i := (32 : Int32)) (v := (184 : Int32)) rfl rfl] at hP hD
  refine lv_dup hx hb d_D_init_1335 rfl ?_
  refine lv_bipush (v := (33 : Int32)) hx hb d_D_init_1336 (by decide) ?_
  refine lv_sipush (v := (188 : Int32)) hx hb d_D_init_1338 (by decide) ?_
  refine va_iast hx hb hK hP hD hS 3 2 rfl rfl (by unfold vp_in; decide) d_D_init_1341 (fun H locs hP hD hS => ?_)
  have hP : va_P D vwCl ([(x0, .inr (6, fs)), (x1, .inl (c1, 91, .inr (.inl f1))), (x2, .inl (c2, 91, .inl f2)), (q, .inl (cq, 91, .inl (upd (tbI cdL 33) (33 : Int32).toNatClampNeg (188 : Int32))))]) H := hP
  have hD : va_D A ([(x0, .inr (6, fs)), (x1, .inl (c1, 91, .inr (.inl f1))), (x2, .inl (c2, 91, .inl f2)), (q, .inl (cq, 91, .inl (upd (tbI cdL 33) (33 : Int32).toNatClampNeg (188 : Int32))))]) := hD
  rw [tbI_s (L := cdL) (k := 33) (i := (33 : Int32)) (v := (188 : Int32)) rfl rfl] at hP hD
  refine lv_dup hx hb d_D_init_1342 rfl ?_
  refine lv_bipush (v := (34 : Int32)) hx hb d_D_init_1343 (by decide) ?_
  refine lv_sipush (v := (189 : Int32)) hx hb d_D_init_1345 (by decide) ?_
  refine va_iast hx hb hK hP hD hS 3 2 rfl rfl (by unfold vp_in; decide) d_D_init_1348 (fun H locs hP hD hS => ?_)
  have hP : va_P D vwCl ([(x0, .inr (6, fs)), (x1, .inl (c1, 91, .inr (.inl f1))), (x2, .inl (c2, 91, .inl f2)), (q, .inl (cq, 91, .inl (upd (tbI cdL 34) (34 : Int32).toNatClampNeg (189 : Int32))))]) H := hP
  have hD : va_D A ([(x0, .inr (6, fs)), (x1, .inl (c1, 91, .inr (.inl f1))), (x2, .inl (c2, 91, .inl f2)), (q, .inl (cq, 91, .inl (upd (tbI cdL 34) (34 : Int32).toNatClampNeg (189 : Int32))))]) := hD
  rw [tbI_s (L := cdL) (k := 34) (i := (34 : Int32)) (v := (189 : Int32)) rfl rfl] at hP hD
  refine lv_dup hx hb d_D_init_1349 rfl ?_
  refine lv_bipush (v := (35 : Int32)) hx hb d_D_init_1350 (by decide) ?_
  refine lv_iconst (v := (0 : Int32)) hx hb d_D_init_1352 (by decide) ?_
  refine va_iast hx hb hK hP hD hS 3 2 rfl rfl (by unfold vp_in; decide) d_D_init_1353 (fun H locs hP hD hS => ?_)
  have hP : va_P D vwCl ([(x0, .inr (6, fs)), (x1, .inl (c1, 91, .inr (.inl f1))), (x2, .inl (c2, 91, .inl f2)), (q, .inl (cq, 91, .inl (upd (tbI cdL 35) (35 : Int32).toNatClampNeg (0 : Int32))))]) H := hP
  have hD : va_D A ([(x0, .inr (6, fs)), (x1, .inl (c1, 91, .inr (.inl f1))), (x2, .inl (c2, 91, .inl f2)), (q, .inl (cq, 91, .inl (upd (tbI cdL 35) (35 : Int32).toNatClampNeg (0 : Int32))))]) := hD
  rw [tbI_s (L := cdL) (k := 35) (i := (35 : Int32)) (v := (0 : Int32)) rfl rfl] at hP hD
  refine lv_dup hx hb d_D_init_1354 rfl ?_
  refine lv_bipush (v := (36 : Int32)) hx hb d_D_init_1355 (by decide) ?_
  refine lv_bipush (v := (40 : Int32)) hx hb d_D_init_1357 (by decide) ?_
  refine va_iast hx hb hK hP hD hS 3 2 rfl rfl (by unfold vp_in; decide) d_D_init_1359 (fun H locs hP hD hS => ?_)
  have hP : va_P D vwCl ([(x0, .inr (6, fs)), (x1, .inl (c1, 91, .inr (.inl f1))), (x2, .inl (c2, 91, .inl f2)), (q, .inl (cq, 91, .inl (upd (tbI cdL 36) (36 : Int32).toNatClampNeg (40 : Int32))))]) H := hP
  have hD : va_D A ([(x0, .inr (6, fs)), (x1, .inl (c1, 91, .inr (.inl f1))), (x2, .inl (c2, 91, .inl f2)), (q, .inl (cq, 91, .inl (upd (tbI cdL 36) (36 : Int32).toNatClampNeg (40 : Int32))))]) := hD
  rw [tbI_s (L := cdL) (k := 36) (i := (36 : Int32)) (v := (40 : Int32)) rfl rfl] at hP hD
  refine lv_dup hx hb d_D_init_1360 rfl ?_
  refine lv_bipush (v := (37 : Int32)) hx hb d_D_init_1361 (by decide) ?_
  refine lv_bipush (v := (41 : Int32)) hx hb d_D_init_1363 (by decide) ?_
  refine va_iast hx hb hK hP hD hS 3 2 rfl rfl (by unfold vp_in; decide) d_D_init_1365 (fun H locs hP hD hS => ?_)
  have hP : va_P D vwCl ([(x0, .inr (6, fs)), (x1, .inl (c1, 91, .inr (.inl f1))), (x2, .inl (c2, 91, .inl f2)), (q, .inl (cq, 91, .inl (upd (tbI cdL 37) (37 : Int32).toNatClampNeg (41 : Int32))))]) H := hP
  have hD : va_D A ([(x0, .inr (6, fs)), (x1, .inl (c1, 91, .inr (.inl f1))), (x2, .inl (c2, 91, .inl f2)), (q, .inl (cq, 91, .inl (upd (tbI cdL 37) (37 : Int32).toNatClampNeg (41 : Int32))))]) := hD
  rw [tbI_s (L := cdL) (k := 37) (i := (37 : Int32)) (v := (41 : Int32)) rfl rfl] at hP hD
  refine lv_dup hx hb d_D_init_1366 rfl ?_
  refine lv_bipush (v := (38 : Int32)) hx hb d_D_init_1367 (by decide) ?_
  refine lv_bipush (v := (42 : Int32)) hx hb d_D_init_1369 (by decide) ?_
  refine va_iast hx hb hK hP hD hS 3 2 rfl rfl (by unfold vp_in; decide) d_D_init_1371 (fun H locs hP hD hS => ?_)
  have hP : va_P D vwCl ([(x0, .inr (6, fs)), (x1, .inl (c1, 91, .inr (.inl f1))), (x2, .inl (c2, 91, .inl f2)), (q, .inl (cq, 91, .inl (upd (tbI cdL 38) (38 : Int32).toNatClampNeg (42 : Int32))))]) H := hP
  have hD : va_D A ([(x0, .inr (6, fs)), (x1, .inl (c1, 91, .inr (.inl f1))), (x2, .inl (c2, 91, .inl f2)), (q, .inl (cq, 91, .inl (upd (tbI cdL 38) (38 : Int32).toNatClampNeg (42 : Int32))))]) := hD
  rw [tbI_s (L := cdL) (k := 38) (i := (38 : Int32)) (v := (42 : Int32)) rfl rfl] at hP hD
  exact kk H locs hP hD hS
set_option maxHeartbeats 4000000 in
set_option maxRecDepth 100000 in
theorem ch_D_init_1372 {p : Program} {l : Launch} {e : Env} {R : Room} {s : State} {m : MethodId} {args : Array Value} {below : List Frame} {meth : Method} {c : Code} {H : Heap} {locs : List Loc} {cells slots : Nat} {Q : State → Prop} {ls : Array Slot} {D : va_G} {A : Nat → Prop} {fs : List Value} {x0 : Nat} {x1 : Nat} {c1 : ClassId} {f1 : Nat → Int64} {x2 : Nat} {c2 : ClassId} {f2 : Nat → Int32} {q : Nat} {cq : ClassId} {rest : List Value} (hx : p.tables.exec = Jvm.exec) (hb : c.code = c_D_init) (hown : s.vm.findClass "WindowMachineModel" = some m.cls) (ht : ∀ w9 ∈ zT, w9.before args s = true) (hK : va_K D vwCl [(c1, .long), (c2, .int), (cq, .int)] s) (hP : va_P D vwCl [(x0, .inr (6, fs)), (x1, .inl (c1, 91, .inr (.inl f1))), (x2, .inl (c2, 91, .inl f2)), (q, .inl (cq, 91, .inl (tbI cdL 39)))] H) (hD : va_D A [(x0, .inr (6, fs)), (x1, .inl (c1, 91, .inr (.inl f1))), (x2, .inl (c2, 91, .inl f2)), (q, .inl (cq, 91, .inl (tbI cdL 39)))]) (hS : va_S A s.heap H locs)
    (kk : ∀ (H : Heap) (locs : List Loc), va_P D vwCl [(x0, .inr (6, fs)), (x1, .inl (c1, 91, .inr (.inl f1))), (x2, .inl (c2, 91, .inl f2)), (q, .inl (cq, 91, .inl (tbI cdL 52)))] H → va_D A [(x0, .inr (6, fs)), (x1, .inl (c1, 91, .inr (.inl f1))), (x2, .inl (c2, 91, .inl f2)), (q, .inl (cq, 91, .inl (tbI cdL 52)))] → va_S A s.heap H locs → W p l e R s m args below meth c H locs cells slots Q (F0 m 1454 ls (.ref q :: rest))) : W p l e R s m args below meth c H locs cells slots Q (F0 m 1372 ls (.ref q :: rest)) := by
  refine lv_dup hx hb d_D_init_1372 rfl ?_
  refine lv_bipush (v := (39 : Int32)) hx hb d_D_init_1373 (by decide) ?_
  refine lv_bipush (v := (43 : Int32)) hx hb d_D_init_1375 (by decide) ?_
  refine va_iast hx hb hK hP hD hS 3 2 rfl rfl (by unfold vp_in; decide) d_D_init_1377 (fun H locs hP hD hS => ?_)
  have hP : va_P D vwCl ([(x0, .inr (6, fs)), (x1, .inl (c1, 91, .inr (.inl f1))), (x2, .inl (c2, 91, .inl f2)), (q, .inl (cq, 91, .inl (upd (tbI cdL 39) (39 : Int32).toNatClampNeg (43 : Int32))))]) H := hP
  have hD : va_D A ([(x0, .inr (6, fs)), (x1, .inl (c1, 91, .inr (.inl f1))), (x2, .inl (c2, 91, .inl f2)), (q, .inl (cq, 91, .inl (upd (tbI cdL 39) (39 : Int32).toNatClampNeg (43 : Int32))))]) := hD
  rw [tbI_s (L := cdL) (k := 39) (i := (39 : Int32)) (v := (43 : Int32)) rfl rfl] at hP hD
  refine lv_dup hx hb d_D_init_1378 rfl ?_
  refine lv_bipush (v := (40 : Int32)) hx hb d_D_init_1379 (by decide) ?_
  refine lv_sipush (v := (1536 : Int32)) hx hb d_D_init_1381 (by decide) ?_
  refine va_iast hx hb hK hP hD hS 3 2 rfl rfl (by unfold vp_in; decide) d_D_init_1384 (fun H locs hP hD hS => ?_)
  have hP : va_P D vwCl ([(x0, .inr (6, fs)), (x1, .inl (c1, 91, .inr (.inl f1))), (x2, .inl (c2, 91, .inl f2)), (q, .inl (cq, 91, .inl (upd (tbI cdL 40) (40 : Int32).toNatClampNeg (1536 : Int32))))]) H := hP
  have hD : va_D A ([(x0, .inr (6, fs)), (x1, .inl (c1, 91, .inr (.inl f1))), (x2, .inl (c2, 91, .inl f2)), (q, .inl (cq, 91, .inl (upd (tbI cdL 40) (40 : Int32).toNatClampNeg (1536 : Int32))))]) := hD
  rw [tbI_s (L := cdL) (k := 40) (i := (40 : Int32)) (v := (1536 : Int32)) rfl rfl] at hP hD
  refine lv_dup hx hb d_D_init_1385 rfl ?_
  refine lv_bipush (v := (41 : Int32)) hx hb d_D_init_1386 (by decide) ?_
  refine lv_sipush (v := (1568 : Int32)) hx hb d_D_init_1388 (by decide) ?_
  refine va_iast hx hb hK hP hD hS 3 2 rfl rfl (by unfold vp_in; decide) d_D_init_1391 (fun H locs hP hD hS => ?_)
  have hP : va_P D vwCl ([(x0, .inr (6, fs)), (x1, .inl (c1, 91, .inr (.inl f1))), (x2, .inl (c2, 91, .inl f2)), (q, .inl (cq, 91, .inl (upd (tbI cdL 41) (41 : Int32).toNatClampNeg (1568 : Int32))))]) H := hP
  have hD : va_D A ([(x0, .inr (6, fs)), (x1, .inl (c1, 91, .inr (.inl f1))), (x2, .inl (c2, 91, .inl f2)), (q, .inl (cq, 91, .inl (upd (tbI cdL 41) (41 : Int32).toNatClampNeg (1568 : Int32))))]) := hD
  rw [tbI_s (L := cdL) (k := 41) (i := (41 : Int32)) (v := (1568 : Int32)) rfl rfl] at hP hD
  refine lv_dup hx hb d_D_init_1392 rfl ?_
  refine lv_bipush (v := (42 : Int32)) hx hb d_D_init_1393 (by decide) ?_
  refine lv_sipush (v := (1600 : Int32)) hx hb d_D_init_1395 (by decide) ?_
  refine va_iast hx hb hK hP hD hS 3 2 rfl rfl (by unfold vp_in; decide) d_D_init_1398 (fun H locs hP hD hS => ?_)
  have hP : va_P D vwCl ([(x0, .inr (6, fs)), (x1, .inl (c1, 91, .inr (.inl f1))), (x2, .inl (c2, 91, .inl f2)), (q, .inl (cq, 91, .inl (upd (tbI cdL 42) (42 : Int32).toNatClampNeg (1600 : Int32))))]) H := hP
  have hD : va_D A ([(x0, .inr (6, fs)), (x1, .inl (c1, 91, .inr (.inl f1))), (x2, .inl (c2, 91, .inl f2)), (q, .inl (cq, 91, .inl (upd (tbI cdL 42) (42 : Int32).toNatClampNeg (1600 : Int32))))]) := hD
  rw [tbI_s (L := cdL) (k := 42) (i := (42 : Int32)) (v := (1600 : Int32)) rfl rfl] at hP hD
  refine lv_dup hx hb d_D_init_1399 rfl ?_
  refine lv_bipush (v := (43 : Int32)) hx hb d_D_init_1400 (by decide) ?_
  refine lv_sipush (v := (1632 : Int32)) hx hb d_D_init_1402 (by decide) ?_
  refine va_iast hx hb hK hP hD hS 3 2 rfl rfl (by unfold vp_in; decide) d_D_init_1405 (fun H locs hP hD hS => ?_)
  have hP : va_P D vwCl ([(x0, .inr (6, fs)), (x1, .inl (c1, 91, .inr (.inl f1))), (x2, .inl (c2, 91, .inl f2)), (q, .inl (cq, 91, .inl (upd (tbI cdL 43) (43 : Int32).toNatClampNeg (1632 : Int32))))]) H := hP
  have hD : va_D A ([(x0, .inr (6, fs)), (x1, .inl (c1, 91, .inr (.inl f1))), (x2, .inl (c2, 91, .inl f2)), (q, .inl (cq, 91, .inl (upd (tbI cdL 43) (43 : Int32).toNatClampNeg (1632 : Int32))))]) := hD
  rw [tbI_s (L := cdL) (k := 43) (i := (43 : Int32)) (v := (1632 : Int32)) rfl rfl] at hP hD
  refine lv_dup hx hb d_D_init_1406 rfl ?_
  refine lv_bipush (v := (44 : Int32)) hx hb d_D_init_1407 (by decide) ?_
  refine lv_sipush (v := (1824 : Int32)) hx hb d_D_init_1409 (by decide) ?_
  refine va_iast hx hb hK hP hD hS 3 2 rfl rfl (by unfold vp_in; decide) d_D_init_1412 (fun H locs hP hD hS => ?_)
  have hP : va_P D vwCl ([(x0, .inr (6, fs)), (x1, .inl (c1, 91, .inr (.inl f1))), (x2, .inl (c2, 91, .inl f2)), (q, .inl (cq, 91, .inl (upd (tbI cdL 44) (44 : Int32).toNatClampNeg (1824 : Int32))))]) H := hP
  have hD : va_D A ([(x0, .inr (6, fs)), (x1, .inl (c1, 91, .inr (.inl f1))), (x2, .inl (c2, 91, .inl f2)), (q, .inl (cq, 91, .inl (upd (tbI cdL 44) (44 : Int32).toNatClampNeg (1824 : Int32))))]) := hD
  rw [tbI_s (L := cdL) (k := 44) (i := (44 : Int32)) (v := (1824 : Int32)) rfl rfl] at hP hD
  refine lv_dup hx hb d_D_init_1413 rfl ?_
  refine lv_bipush (v := (45 : Int32)) hx hb d_D_init_1414 (by decide) ?_
  refine lv_iconst (v := (0 : Int32)) hx hb d_D_init_1416 (by decide) ?_
  refine va_iast hx hb hK hP hD hS 3 2 rfl rfl (by unfold vp_in; decide) d_D_init_1417 (fun H locs hP hD hS => ?_)
  have hP : va_P D vwCl ([(x0, .inr (6, fs)), (x1, .inl (c1, 91, .inr (.inl f1))), (x2, .inl (c2, 91, .inl f2)), (q, .inl (cq, 91, .inl (upd (tbI cdL 45) (45 : Int32).toNatClampNeg (0 : Int32))))]) H := hP
  have hD : va_D A ([(x0, .inr (6, fs)), (x1, .inl (c1, 91, .inr (.inl f1))), (x2, .inl (c2, 91, .inl f2)), (q, .inl (cq, 91, .inl (upd (tbI cdL 45) (45 : Int32).toNatClampNeg (0 : Int32))))]) := hD
  rw [tbI_s (L := cdL) (k := 45) (i := (45 : Int32)) (v := (0 : Int32)) rfl rfl] at hP hD
  refine lv_dup hx hb d_D_init_1418 rfl ?_
  refine lv_bipush (v := (46 : Int32)) hx hb d_D_init_1419 (by decide) ?_
  refine lv_iconst (v := (0 : Int32)) hx hb d_D_init_1421 (by decide) ?_
  refine va_iast hx hb hK hP hD hS 3 2 rfl rfl (by unfold vp_in; decide) d_D_init_1422 (fun H locs hP hD hS => ?_)
  have hP : va_P D vwCl ([(x0, .inr (6, fs)), (x1, .inl (c1, 91, .inr (.inl f1))), (x2, .inl (c2, 91, .inl f2)), (q, .inl (cq, 91, .inl (upd (tbI cdL 46) (46 : Int32).toNatClampNeg (0 : Int32))))]) H := hP
  have hD : va_D A ([(x0, .inr (6, fs)), (x1, .inl (c1, 91, .inr (.inl f1))), (x2, .inl (c2, 91, .inl f2)), (q, .inl (cq, 91, .inl (upd (tbI cdL 46) (46 : Int32).toNatClampNeg (0 : Int32))))]) := hD
  rw [tbI_s (L := cdL) (k := 46) (i := (46 : Int32)) (v := (0 : Int32)) rfl rfl] at hP hD
  refine lv_dup hx hb d_D_init_1423 rfl ?_
  refine lv_bipush (v := (47 : Int32)) hx hb d_D_init_1424 (by decide) ?_
  refine lv_sipush (v := (1856 : Int32)) hx hb d_D_init_1426 (by decide) ?_
  refine va_iast hx hb hK hP hD hS 3 2 rfl rfl (by unfold vp_in; decide) d_D_init_1429 (fun H locs hP hD hS => ?_)
  have hP : va_P D vwCl ([(x0, .inr (6, fs)), (x1, .inl (c1, 91, .inr (.inl f1))), (x2, .inl (c2, 91, .inl f2)), (q, .inl (cq, 91, .inl (upd (tbI cdL 47) (47 : Int32).toNatClampNeg (1856 : Int32))))]) H := hP
  have hD : va_D A ([(x0, .inr (6, fs)), (x1, .inl (c1, 91, .inr (.inl f1))), (x2, .inl (c2, 91, .inl f2)), (q, .inl (cq, 91, .inl (upd (tbI cdL 47) (47 : Int32).toNatClampNeg (1856 : Int32))))]) := hD
  rw [tbI_s (L := cdL) (k := 47) (i := (47 : Int32)) (v := (1856 : Int32)) rfl rfl] at hP hD
  refine lv_dup hx hb d_D_init_1430 rfl ?_
  refine lv_bipush (v := (48 : Int32)) hx hb d_D_init_1431 (by decide) ?_
  refine lv_iconst (v := (1 : Int32)) hx hb d_D_init_1433 (by decide) ?_
  refine va_iast hx hb hK hP hD hS 3 2 rfl rfl (by unfold vp_in; decide) d_D_init_1434 (fun H locs hP hD hS => ?_)
  have hP : va_P D vwCl ([(x0, .inr (6, fs)), (x1, .inl (c1, 91, .inr (.inl f1))), (x2, .inl (c2, 91, .inl f2)), (q, .inl (cq, 91, .inl (upd (tbI cdL 48) (48 : Int32).toNatClampNeg (1 : Int32))))]) H := hP
  have hD : va_D A ([(x0, .inr (6, fs)), (x1, .inl (c1, 91, .inr (.inl f1))), (x2, .inl (c2, 91, .inl f2)), (q, .inl (cq, 91, .inl (upd (tbI cdL 48) (48 : Int32).toNatClampNeg (1 : Int32))))]) := hD
  rw [tbI_s (L := cdL) (k := 48) (i := (48 : Int32)) (v := (1 : Int32)) rfl rfl] at hP hD
  refine lv_dup hx hb d_D_init_1435 rfl ?_
  refine lv_bipush (v := (49 : Int32)) hx hb d_D_init_1436 (by decide) ?_
  refine lv_sipush (v := (1857 : Int32)) hx hb d_D_init_1438 (by decide) ?_
  refine va_iast hx hb hK hP hD hS 3 2 rfl rfl (by unfold vp_in; decide) d_D_init_1441 (fun H locs hP hD hS => ?_)
  have hP : va_P D vwCl ([(x0, .inr (6, fs)), (x1, .inl (c1, 91, .inr (.inl f1))), (x2, .inl (c2, 91, .inl f2)), (q, .inl (cq, 91, .inl (upd (tbI cdL 49) (49 : Int32).toNatClampNeg (1857 : Int32))))]) H := hP
  have hD : va_D A ([(x0, .inr (6, fs)), (x1, .inl (c1, 91, .inr (.inl f1))), (x2, .inl (c2, 91, .inl f2)), (q, .inl (cq, 91, .inl (upd (tbI cdL 49) (49 : Int32).toNatClampNeg (1857 : Int32))))]) := hD
  rw [tbI_s (L := cdL) (k := 49) (i := (49 : Int32)) (v := (1857 : Int32)) rfl rfl] at hP hD
  refine lv_dup hx hb d_D_init_1442 rfl ?_
  refine lv_bipush (v := (50 : Int32)) hx hb d_D_init_1443 (by decide) ?_
  refine lv_iconst (v := (2 : Int32)) hx hb d_D_init_1445 (by decide) ?_
  refine va_iast hx hb hK hP hD hS 3 2 rfl rfl (by unfold vp_in; decide) d_D_init_1446 (fun H locs hP hD hS => ?_)
  have hP : va_P D vwCl ([(x0, .inr (6, fs)), (x1, .inl (c1, 91, .inr (.inl f1))), (x2, .inl (c2, 91, .inl f2)), (q, .inl (cq, 91, .inl (upd (tbI cdL 50) (50 : Int32).toNatClampNeg (2 : Int32))))]) H := hP
  have hD : va_D A ([(x0, .inr (6, fs)), (x1, .inl (c1, 91, .inr (.inl f1))), (x2, .inl (c2, 91, .inl f2)), (q, .inl (cq, 91, .inl (upd (tbI cdL 50) (50 : Int32).toNatClampNeg (2 : Int32))))]) := hD
  rw [tbI_s (L := cdL) (k := 50) (i := (50 : Int32)) (v := (2 : Int32)) rfl rfl] at hP hD
  refine lv_dup hx hb d_D_init_1447 rfl ?_
  refine lv_bipush (v := (51 : Int32)) hx hb d_D_init_1448 (by decide) ?_
  refine lv_sipush (v := (1858 : Int32)) hx hb d_D_init_1450 (by decide) ?_
  refine va_iast hx hb hK hP hD hS 3 2 rfl rfl (by unfold vp_in; decide) d_D_init_1453 (fun H locs hP hD hS => ?_)
  have hP : va_P D vwCl ([(x0, .inr (6, fs)), (x1, .inl (c1, 91, .inr (.inl f1))), (x2, .inl (c2, 91, .inl f2)), (q, .inl (cq, 91, .inl (upd (tbI cdL 51) (51 : Int32).toNatClampNeg (1858 : Int32))))]) H := hP
  have hD : va_D A ([(x0, .inr (6, fs)), (x1, .inl (c1, 91, .inr (.inl f1))), (x2, .inl (c2, 91, .inl f2)), (q, .inl (cq, 91, .inl (upd (tbI cdL 51) (51 : Int32).toNatClampNeg (1858 : Int32))))]) := hD
  rw [tbI_s (L := cdL) (k := 51) (i := (51 : Int32)) (v := (1858 : Int32)) rfl rfl] at hP hD
  exact kk H locs hP hD hS
set_option maxHeartbeats 4000000 in
set_option maxRecDepth 100000 in
theorem ch_D_init_1454 {p : Program} {l : Launch} {e : Env} {R : Room} {s : State} {m : MethodId} {args : Array Value} {below : List Frame} {meth : Method} {c : Code} {H : Heap} {locs : List Loc} {cells slots : Nat} {Q : State → Prop} {ls : Array Slot} {D : va_G} {A : Nat → Prop} {fs : List Value} {x0 : Nat} {x1 : Nat} {c1 : ClassId} {f1 : Nat → Int64} {x2 : Nat} {c2 : ClassId} {f2 : Nat → Int32} {q : Nat} {cq : ClassId} {rest : List Value} (hx : p.tables.exec = Jvm.exec) (hb : c.code = c_D_init) (hown : s.vm.findClass "WindowMachineModel" = some m.cls) (ht : ∀ w9 ∈ zT, w9.before args s = true) (hK : va_K D vwCl [(c1, .long), (c2, .int), (cq, .int)] s) (hP : va_P D vwCl [(x0, .inr (6, fs)), (x1, .inl (c1, 91, .inr (.inl f1))), (x2, .inl (c2, 91, .inl f2)), (q, .inl (cq, 91, .inl (tbI cdL 52)))] H) (hD : va_D A [(x0, .inr (6, fs)), (x1, .inl (c1, 91, .inr (.inl f1))), (x2, .inl (c2, 91, .inl f2)), (q, .inl (cq, 91, .inl (tbI cdL 52)))]) (hS : va_S A s.heap H locs)
    (kk : ∀ (H : Heap) (locs : List Loc), va_P D vwCl [(x0, .inr (6, fs)), (x1, .inl (c1, 91, .inr (.inl f1))), (x2, .inl (c2, 91, .inl f2)), (q, .inl (cq, 91, .inl (tbI cdL 65)))] H → va_D A [(x0, .inr (6, fs)), (x1, .inl (c1, 91, .inr (.inl f1))), (x2, .inl (c2, 91, .inl f2)), (q, .inl (cq, 91, .inl (tbI cdL 65)))] → va_S A s.heap H locs → W p l e R s m args below meth c H locs cells slots Q (F0 m 1535 ls (.ref q :: rest))) : W p l e R s m args below meth c H locs cells slots Q (F0 m 1454 ls (.ref q :: rest)) := by
  refine lv_dup hx hb d_D_init_1454 rfl ?_
  refine lv_bipush (v := (52 : Int32)) hx hb d_D_init_1455 (by decide) ?_
  refine lv_iconst (v := (3 : Int32)) hx hb d_D_init_1457 (by decide) ?_
  refine va_iast hx hb hK hP hD hS 3 2 rfl rfl (by unfold vp_in; decide) d_D_init_1458 (fun H locs hP hD hS => ?_)
  have hP : va_P D vwCl ([(x0, .inr (6, fs)), (x1, .inl (c1, 91, .inr (.inl f1))), (x2, .inl (c2, 91, .inl f2)), (q, .inl (cq, 91, .inl (upd (tbI cdL 52) (52 : Int32).toNatClampNeg (3 : Int32))))]) H := hP
  have hD : va_D A ([(x0, .inr (6, fs)), (x1, .inl (c1, 91, .inr (.inl f1))), (x2, .inl (c2, 91, .inl f2)), (q, .inl (cq, 91, .inl (upd (tbI cdL 52) (52 : Int32).toNatClampNeg (3 : Int32))))]) := hD
  rw [tbI_s (L := cdL) (k := 52) (i := (52 : Int32)) (v := (3 : Int32)) rfl rfl] at hP hD
  refine lv_dup hx hb d_D_init_1459 rfl ?_
  refine lv_bipush (v := (53 : Int32)) hx hb d_D_init_1460 (by decide) ?_
  refine lv_sipush (v := (1859 : Int32)) hx hb d_D_init_1462 (by decide) ?_
  refine va_iast hx hb hK hP hD hS 3 2 rfl rfl (by unfold vp_in; decide) d_D_init_1465 (fun H locs hP hD hS => ?_)
  have hP : va_P D vwCl ([(x0, .inr (6, fs)), (x1, .inl (c1, 91, .inr (.inl f1))), (x2, .inl (c2, 91, .inl f2)), (q, .inl (cq, 91, .inl (upd (tbI cdL 53) (53 : Int32).toNatClampNeg (1859 : Int32))))]) H := hP
  have hD : va_D A ([(x0, .inr (6, fs)), (x1, .inl (c1, 91, .inr (.inl f1))), (x2, .inl (c2, 91, .inl f2)), (q, .inl (cq, 91, .inl (upd (tbI cdL 53) (53 : Int32).toNatClampNeg (1859 : Int32))))]) := hD
  rw [tbI_s (L := cdL) (k := 53) (i := (53 : Int32)) (v := (1859 : Int32)) rfl rfl] at hP hD
  refine lv_dup hx hb d_D_init_1466 rfl ?_
  refine lv_bipush (v := (54 : Int32)) hx hb d_D_init_1467 (by decide) ?_
  refine lv_iconst (v := (4 : Int32)) hx hb d_D_init_1469 (by decide) ?_
  refine va_iast hx hb hK hP hD hS 3 2 rfl rfl (by unfold vp_in; decide) d_D_init_1470 (fun H locs hP hD hS => ?_)
  have hP : va_P D vwCl ([(x0, .inr (6, fs)), (x1, .inl (c1, 91, .inr (.inl f1))), (x2, .inl (c2, 91, .inl f2)), (q, .inl (cq, 91, .inl (upd (tbI cdL 54) (54 : Int32).toNatClampNeg (4 : Int32))))]) H := hP
  have hD : va_D A ([(x0, .inr (6, fs)), (x1, .inl (c1, 91, .inr (.inl f1))), (x2, .inl (c2, 91, .inl f2)), (q, .inl (cq, 91, .inl (upd (tbI cdL 54) (54 : Int32).toNatClampNeg (4 : Int32))))]) := hD
  rw [tbI_s (L := cdL) (k := 54) (i := (54 : Int32)) (v := (4 : Int32)) rfl rfl] at hP hD
  refine lv_dup hx hb d_D_init_1471 rfl ?_
  refine lv_bipush (v := (55 : Int32)) hx hb d_D_init_1472 (by decide) ?_
  refine lv_sipush (v := (1860 : Int32)) hx hb d_D_init_1474 (by decide) ?_
  refine va_iast hx hb hK hP hD hS 3 2 rfl rfl (by unfold vp_in; decide) d_D_init_1477 (fun H locs hP hD hS => ?_)
  have hP : va_P D vwCl ([(x0, .inr (6, fs)), (x1, .inl (c1, 91, .inr (.inl f1))), (x2, .inl (c2, 91, .inl f2)), (q, .inl (cq, 91, .inl (upd (tbI cdL 55) (55 : Int32).toNatClampNeg (1860 : Int32))))]) H := hP
  have hD : va_D A ([(x0, .inr (6, fs)), (x1, .inl (c1, 91, .inr (.inl f1))), (x2, .inl (c2, 91, .inl f2)), (q, .inl (cq, 91, .inl (upd (tbI cdL 55) (55 : Int32).toNatClampNeg (1860 : Int32))))]) := hD
  rw [tbI_s (L := cdL) (k := 55) (i := (55 : Int32)) (v := (1860 : Int32)) rfl rfl] at hP hD
  refine lv_dup hx hb d_D_init_1478 rfl ?_
  refine lv_bipush (v := (56 : Int32)) hx hb d_D_init_1479 (by decide) ?_
  refine lv_iconst (v := (5 : Int32)) hx hb d_D_init_1481 (by decide) ?_
  refine va_iast hx hb hK hP hD hS 3 2 rfl rfl (by unfold vp_in; decide) d_D_init_1482 (fun H locs hP hD hS => ?_)
  have hP : va_P D vwCl ([(x0, .inr (6, fs)), (x1, .inl (c1, 91, .inr (.inl f1))), (x2, .inl (c2, 91, .inl f2)), (q, .inl (cq, 91, .inl (upd (tbI cdL 56) (56 : Int32).toNatClampNeg (5 : Int32))))]) H := hP
  have hD : va_D A ([(x0, .inr (6, fs)), (x1, .inl (c1, 91, .inr (.inl f1))), (x2, .inl (c2, 91, .inl f2)), (q, .inl (cq, 91, .inl (upd (tbI cdL 56) (56 : Int32).toNatClampNeg (5 : Int32))))]) := hD
  rw [tbI_s (L := cdL) (k := 56) (i := (56 : Int32)) (v := (5 : Int32)) rfl rfl] at hP hD
  refine lv_dup hx hb d_D_init_1483 rfl ?_
  refine lv_bipush (v := (57 : Int32)) hx hb d_D_init_1484 (by decide) ?_
  refine lv_sipush (v := (1861 : Int32)) hx hb d_D_init_1486 (by decide) ?_
  refine va_iast hx hb hK hP hD hS 3 2 rfl rfl (by unfold vp_in; decide) d_D_init_1489 (fun H locs hP hD hS => ?_)
  have hP : va_P D vwCl ([(x0, .inr (6, fs)), (x1, .inl (c1, 91, .inr (.inl f1))), (x2, .inl (c2, 91, .inl f2)), (q, .inl (cq, 91, .inl (upd (tbI cdL 57) (57 : Int32).toNatClampNeg (1861 : Int32))))]) H := hP
  have hD : va_D A ([(x0, .inr (6, fs)), (x1, .inl (c1, 91, .inr (.inl f1))), (x2, .inl (c2, 91, .inl f2)), (q, .inl (cq, 91, .inl (upd (tbI cdL 57) (57 : Int32).toNatClampNeg (1861 : Int32))))]) := hD
  rw [tbI_s (L := cdL) (k := 57) (i := (57 : Int32)) (v := (1861 : Int32)) rfl rfl] at hP hD
  refine lv_dup hx hb d_D_init_1490 rfl ?_
  refine lv_bipush (v := (58 : Int32)) hx hb d_D_init_1491 (by decide) ?_
  refine lv_bipush (v := (6 : Int32)) hx hb d_D_init_1493 (by decide) ?_
  refine va_iast hx hb hK hP hD hS 3 2 rfl rfl (by unfold vp_in; decide) d_D_init_1495 (fun H locs hP hD hS => ?_)
  have hP : va_P D vwCl ([(x0, .inr (6, fs)), (x1, .inl (c1, 91, .inr (.inl f1))), (x2, .inl (c2, 91, .inl f2)), (q, .inl (cq, 91, .inl (upd (tbI cdL 58) (58 : Int32).toNatClampNeg (6 : Int32))))]) H := hP
  have hD : va_D A ([(x0, .inr (6, fs)), (x1, .inl (c1, 91, .inr (.inl f1))), (x2, .inl (c2, 91, .inl f2)), (q, .inl (cq, 91, .inl (upd (tbI cdL 58) (58 : Int32).toNatClampNeg (6 : Int32))))]) := hD
  rw [tbI_s (L := cdL) (k := 58) (i := (58 : Int32)) (v := (6 : Int32)) rfl rfl] at hP hD
  refine lv_dup hx hb d_D_init_1496 rfl ?_
  refine lv_bipush (v := (59 : Int32)) hx hb d_D_init_1497 (by decide) ?_
  refine lv_sipush (v := (1862 : Int32)) hx hb d_D_init_1499 (by decide) ?_
  refine va_iast hx hb hK hP hD hS 3 2 rfl rfl (by unfold vp_in; decide) d_D_init_1502 (fun H locs hP hD hS => ?_)
  have hP : va_P D vwCl ([(x0, .inr (6, fs)), (x1, .inl (c1, 91, .inr (.inl f1))), (x2, .inl (c2, 91, .inl f2)), (q, .inl (cq, 91, .inl (upd (tbI cdL 59) (59 : Int32).toNatClampNeg (1862 : Int32))))]) H := hP
  have hD : va_D A ([(x0, .inr (6, fs)), (x1, .inl (c1, 91, .inr (.inl f1))), (x2, .inl (c2, 91, .inl f2)), (q, .inl (cq, 91, .inl (upd (tbI cdL 59) (59 : Int32).toNatClampNeg (1862 : Int32))))]) := hD
  rw [tbI_s (L := cdL) (k := 59) (i := (59 : Int32)) (v := (1862 : Int32)) rfl rfl] at hP hD
  refine lv_dup hx hb d_D_init_1503 rfl ?_
  refine lv_bipush (v := (60 : Int32)) hx hb d_D_init_1504 (by decide) ?_
  refine lv_bipush (v := (7 : Int32)) hx hb d_D_init_1506 (by decide) ?_
  refine va_iast hx hb hK hP hD hS 3 2 rfl rfl (by unfold vp_in; decide) d_D_init_1508 (fun H locs hP hD hS => ?_)
  have hP : va_P D vwCl ([(x0, .inr (6, fs)), (x1, .inl (c1, 91, .inr (.inl f1))), (x2, .inl (c2, 91, .inl f2)), (q, .inl (cq, 91, .inl (upd (tbI cdL 60) (60 : Int32).toNatClampNeg (7 : Int32))))]) H := hP
  have hD : va_D A ([(x0, .inr (6, fs)), (x1, .inl (c1, 91, .inr (.inl f1))), (x2, .inl (c2, 91, .inl f2)), (q, .inl (cq, 91, .inl (upd (tbI cdL 60) (60 : Int32).toNatClampNeg (7 : Int32))))]) := hD
  rw [tbI_s (L := cdL) (k := 60) (i := (60 : Int32)) (v := (7 : Int32)) rfl rfl] at hP hD
  refine lv_dup hx hb d_D_init_1509 rfl ?_
  refine lv_bipush (v := (61 : Int32)) hx hb d_D_init_1510 (by decide) ?_
  refine lv_sipush (v := (1863 : Int32)) hx hb d_D_init_1512 (by decide) ?_
  refine va_iast hx hb hK hP hD hS 3 2 rfl rfl (by unfold vp_in; decide) d_D_init_1515 (fun H locs hP hD hS => ?_)
  have hP : va_P D vwCl ([(x0, .inr (6, fs)), (x1, .inl (c1, 91, .inr (.inl f1))), (x2, .inl (c2, 91, .inl f2)), (q, .inl (cq, 91, .inl (upd (tbI cdL 61) (61 : Int32).toNatClampNeg (1863 : Int32))))]) H := hP
  have hD : va_D A ([(x0, .inr (6, fs)), (x1, .inl (c1, 91, .inr (.inl f1))), (x2, .inl (c2, 91, .inl f2)), (q, .inl (cq, 91, .inl (upd (tbI cdL 61) (61 : Int32).toNatClampNeg (1863 : Int32))))]) := hD
  rw [tbI_s (L := cdL) (k := 61) (i := (61 : Int32)) (v := (1863 : Int32)) rfl rfl] at hP hD
  refine lv_dup hx hb d_D_init_1516 rfl ?_
  refine lv_bipush (v := (62 : Int32)) hx hb d_D_init_1517 (by decide) ?_
  refine lv_bipush (v := (8 : Int32)) hx hb d_D_init_1519 (by decide) ?_
  refine va_iast hx hb hK hP hD hS 3 2 rfl rfl (by unfold vp_in; decide) d_D_init_1521 (fun H locs hP hD hS => ?_)
  have hP : va_P D vwCl ([(x0, .inr (6, fs)), (x1, .inl (c1, 91, .inr (.inl f1))), (x2, .inl (c2, 91, .inl f2)), (q, .inl (cq, 91, .inl (upd (tbI cdL 62) (62 : Int32).toNatClampNeg (8 : Int32))))]) H := hP
  have hD : va_D A ([(x0, .inr (6, fs)), (x1, .inl (c1, 91, .inr (.inl f1))), (x2, .inl (c2, 91, .inl f2)), (q, .inl (cq, 91, .inl (upd (tbI cdL 62) (62 : Int32).toNatClampNeg (8 : Int32))))]) := hD
  rw [tbI_s (L := cdL) (k := 62) (i := (62 : Int32)) (v := (8 : Int32)) rfl rfl] at hP hD
  refine lv_dup hx hb d_D_init_1522 rfl ?_
  refine lv_bipush (v := (63 : Int32)) hx hb d_D_init_1523 (by decide) ?_
  refine lv_sipush (v := (1864 : Int32)) hx hb d_D_init_1525 (by decide) ?_
  refine va_iast hx hb hK hP hD hS 3 2 rfl rfl (by unfold vp_in; decide) d_D_init_1528 (fun H locs hP hD hS => ?_)
  have hP : va_P D vwCl ([(x0, .inr (6, fs)), (x1, .inl (c1, 91, .inr (.inl f1))), (x2, .inl (c2, 91, .inl f2)), (q, .inl (cq, 91, .inl (upd (tbI cdL 63) (63 : Int32).toNatClampNeg (1864 : Int32))))]) H := hP
  have hD : va_D A ([(x0, .inr (6, fs)), (x1, .inl (c1, 91, .inr (.inl f1))), (x2, .inl (c2, 91, .inl f2)), (q, .inl (cq, 91, .inl (upd (tbI cdL 63) (63 : Int32).toNatClampNeg (1864 : Int32))))]) := hD
  rw [tbI_s (L := cdL) (k := 63) (i := (63 : Int32)) (v := (1864 : Int32)) rfl rfl] at hP hD
  refine lv_dup hx hb d_D_init_1529 rfl ?_
  refine lv_bipush (v := (64 : Int32)) hx hb d_D_init_1530 (by decide) ?_
  refine lv_bipush (v := (9 : Int32)) hx hb d_D_init_1532 (by decide) ?_
  refine va_iast hx hb hK hP hD hS 3 2 rfl rfl (by unfold vp_in; decide) d_D_init_1534 (fun H locs hP hD hS => ?_)
  have hP : va_P D vwCl ([(x0, .inr (6, fs)), (x1, .inl (c1, 91, .inr (.inl f1))), (x2, .inl (c2, 91, .inl f2)), (q, .inl (cq, 91, .inl (upd (tbI cdL 64) (64 : Int32).toNatClampNeg (9 : Int32))))]) H := hP
  have hD : va_D A ([(x0, .inr (6, fs)), (x1, .inl (c1, 91, .inr (.inl f1))), (x2, .inl (c2, 91, .inl f2)), (q, .inl (cq, 91, .inl (upd (tbI cdL 64) (64 : Int32).toNatClampNeg (9 : Int32))))]) := hD
  rw [tbI_s (L := cdL) (k := 64) (i := (64 : Int32)) (v := (9 : Int32)) rfl rfl] at hP hD
  exact kk H locs hP hD hS
set_option maxHeartbeats 4000000 in
set_option maxRecDepth 100000 in
theorem ch_D_init_1535 {p : Program} {l : Launch} {e : Env} {R : Room} {s : State} {m : MethodId} {args : Array Value} {below : List Frame} {meth : Method} {c : Code} {H : Heap} {locs : List Loc} {cells slots : Nat} {Q : State → Prop} {ls : Array Slot} {D : va_G} {A : Nat → Prop} {fs : List Value} {x0 : Nat} {x1 : Nat} {c1 : ClassId} {f1 : Nat → Int64} {x2 : Nat} {c2 : ClassId} {f2 : Nat → Int32} {q : Nat} {cq : ClassId} {rest : List Value} (hx : p.tables.exec = Jvm.exec) (hb : c.code = c_D_init) (hown : s.vm.findClass "WindowMachineModel" = some m.cls) (ht : ∀ w9 ∈ zT, w9.before args s = true) (hK : va_K D vwCl [(c1, .long), (c2, .int), (cq, .int)] s) (hP : va_P D vwCl [(x0, .inr (6, fs)), (x1, .inl (c1, 91, .inr (.inl f1))), (x2, .inl (c2, 91, .inl f2)), (q, .inl (cq, 91, .inl (tbI cdL 65)))] H) (hD : va_D A [(x0, .inr (6, fs)), (x1, .inl (c1, 91, .inr (.inl f1))), (x2, .inl (c2, 91, .inl f2)), (q, .inl (cq, 91, .inl (tbI cdL 65)))]) (hS : va_S A s.heap H locs)
    (kk : ∀ (H : Heap) (locs : List Loc), va_P D vwCl [(x0, .inr (6, fs)), (x1, .inl (c1, 91, .inr (.inl f1))), (x2, .inl (c2, 91, .inl f2)), (q, .inl (cq, 91, .inl (tbI cdL 78)))] H → va_D A [(x0, .inr (6, fs)), (x1, .inl (c1, 91, .inr (.inl f1))), (x2, .inl (c2, 91, .inl f2)), (q, .inl (cq, 91, .inl (tbI cdL 78)))] → va_S A s.heap H locs → W p l e R s m args below meth c H locs cells slots Q (F0 m 1620 ls (.ref q :: rest))) : W p l e R s m args below meth c H locs cells slots Q (F0 m 1535 ls (.ref q :: rest)) := by
  refine lv_dup hx hb d_D_init_1535 rfl ?_
  refine lv_bipush (v := (65 : Int32)) hx hb d_D_init_1536 (by decide) ?_
  refine lv_sipush (v := (1865 : Int32)) hx hb d_D_init_1538 (by decide) ?_
  refine va_iast hx hb hK hP hD hS 3 2 rfl rfl (by unfold vp_in; decide) d_D_init_1541 (fun H locs hP hD hS => ?_)
  have hP : va_P D vwCl ([(x0, .inr (6, fs)), (x1, .inl (c1, 91, .inr (.inl f1))), (x2, .inl (c2, 91, .inl f2)), (q, .inl (cq, 91, .inl (upd (tbI cdL 65) (65 : Int32).toNatClampNeg (1865 : Int32))))]) H := hP
  have hD : va_D A ([(x0, .inr (6, fs)), (x1, .inl (c1, 91, .inr (.inl f1))), (x2, .inl (c2, 91, .inl f2)), (q, .inl (cq, 91, .inl (upd (tbI cdL 65) (65 : Int32).toNatClampNeg (1865 : Int32))))]) := hD
  rw [tbI_s (L := cdL) (k := 65) (i := (65 : Int32)) (v := (1865 : Int32)) rfl rfl] at hP hD
  refine lv_dup hx hb d_D_init_1542 rfl ?_
  refine lv_bipush (v := (66 : Int32)) hx hb d_D_init_1543 (by decide) ?_
  refine lv_bipush (v := (10 : Int32)) hx hb d_D_init_1545 (by decide) ?_
  refine va_iast hx hb hK hP hD hS 3 2 rfl rfl (by unfold vp_in; decide) d_D_init_1547 (fun H locs hP hD hS => ?_)
  have hP : va_P D vwCl ([(x0, .inr (6, fs)), (x1, .inl (c1, 91, .inr (.inl f1))), (x2, .inl (c2, 91, .inl f2)), (q, .inl (cq, 91, .inl (upd (tbI cdL 66) (66 : Int32).toNatClampNeg (10 : Int32))))]) H := hP
  have hD : va_D A ([(x0, .inr (6, fs)), (x1, .inl (c1, 91, .inr (.inl f1))), (x2, .inl (c2, 91, .inl f2)), (q, .inl (cq, 91, .inl (upd (tbI cdL 66) (66 : Int32).toNatClampNeg (10 : Int32))))]) := hD
  rw [tbI_s (L := cdL) (k := 66) (i := (66 : Int32)) (v := (10 : Int32)) rfl rfl] at hP hD
  refine lv_dup hx hb d_D_init_1548 rfl ?_
  refine lv_bipush (v := (67 : Int32)) hx hb d_D_init_1549 (by decide) ?_
  refine lv_sipush (v := (1866 : Int32)) hx hb d_D_init_1551 (by decide) ?_
  refine va_iast hx hb hK hP hD hS 3 2 rfl rfl (by unfold vp_in; decide) d_D_init_1554 (fun H locs hP hD hS => ?_)
  have hP : va_P D vwCl ([(x0, .inr (6, fs)), (x1, .inl (c1, 91, .inr (.inl f1))), (x2, .inl (c2, 91, .inl f2)), (q, .inl (cq, 91, .inl (upd (tbI cdL 67) (67 : Int32).toNatClampNeg (1866 : Int32))))]) H := hP
  have hD : va_D A ([(x0, .inr (6, fs)), (x1, .inl (c1, 91, .inr (.inl f1))), (x2, .inl (c2, 91, .inl f2)), (q, .inl (cq, 91, .inl (upd (tbI cdL 67) (67 : Int32).toNatClampNeg (1866 : Int32))))]) := hD
  rw [tbI_s (L := cdL) (k := 67) (i := (67 : Int32)) (v := (1866 : Int32)) rfl rfl] at hP hD
  refine lv_dup hx hb d_D_init_1555 rfl ?_
  refine lv_bipush (v := (68 : Int32)) hx hb d_D_init_1556 (by decide) ?_
  refine lv_bipush (v := (11 : Int32)) hx hb d_D_init_1558 (by decide) ?_
  refine va_iast hx hb hK hP hD hS 3 2 rfl rfl (by unfold vp_in; decide) d_D_init_1560 (fun H locs hP hD hS => ?_)
  have hP : va_P D vwCl ([(x0, .inr (6, fs)), (x1, .inl (c1, 91, .inr (.inl f1))), (x2, .inl (c2, 91, .inl f2)), (q, .inl (cq, 91, .inl (upd (tbI cdL 68) (68 : Int32).toNatClampNeg (11 : Int32))))]) H := hP
  have hD : va_D A ([(x0, .inr (6, fs)), (x1, .inl (c1, 91, .inr (.inl f1))), (x2, .inl (c2, 91, .inl f2)), (q, .inl (cq, 91, .inl (upd (tbI cdL 68) (68 : Int32).toNatClampNeg (11 : Int32))))]) := hD
  rw [tbI_s (L := cdL) (k := 68) (i := (68 : Int32)) (v := (11 : Int32)) rfl rfl] at hP hD
  refine lv_dup hx hb d_D_init_1561 rfl ?_
  refine lv_bipush (v := (69 : Int32)) hx hb d_D_init_1562 (by decide) ?_
  refine lv_sipush (v := (1867 : Int32)) hx hb d_D_init_1564 (by decide) ?_
  refine va_iast hx hb hK hP hD hS 3 2 rfl rfl (by unfold vp_in; decide) d_D_init_1567 (fun H locs hP hD hS => ?_)
  have hP : va_P D vwCl ([(x0, .inr (6, fs)), (x1, .inl (c1, 91, .inr (.inl f1))), (x2, .inl (c2, 91, .inl f2)), (q, .inl (cq, 91, .inl (upd (tbI cdL 69) (69 : Int32).toNatClampNeg (1867 : Int32))))]) H := hP
  have hD : va_D A ([(x0, .inr (6, fs)), (x1, .inl (c1, 91, .inr (.inl f1))), (x2, .inl (c2, 91, .inl f2)), (q, .inl (cq, 91, .inl (upd (tbI cdL 69) (69 : Int32).toNatClampNeg (1867 : Int32))))]) := hD
  rw [tbI_s (L := cdL) (k := 69) (i := (69 : Int32)) (v := (1867 : Int32)) rfl rfl] at hP hD
  refine lv_dup hx hb d_D_init_1568 rfl ?_
  refine lv_bipush (v := (70 : Int32)) hx hb d_D_init_1569 (by decide) ?_
  refine lv_bipush (v := (12 : Int32)) hx hb d_D_init_1571 (by decide) ?_
  refine va_iast hx hb hK hP hD hS 3 2 rfl rfl (by unfold vp_in; decide) d_D_init_1573 (fun H locs hP hD hS => ?_)
  have hP : va_P D vwCl ([(x0, .inr (6, fs)), (x1, .inl (c1, 91, .inr (.inl f1))), (x2, .inl (c2, 91, .inl f2)), (q, .inl (cq, 91, .inl (upd (tbI cdL 70) (70 : Int32).toNatClampNeg (12 : Int32))))]) H := hP
  have hD : va_D A ([(x0, .inr (6, fs)), (x1, .inl (c1, 91, .inr (.inl f1))), (x2, .inl (c2, 91, .inl f2)), (q, .inl (cq, 91, .inl (upd (tbI cdL 70) (70 : Int32).toNatClampNeg (12 : Int32))))]) := hD
  rw [tbI_s (L := cdL) (k := 70) (i := (70 : Int32)) (v := (12 : Int32)) rfl rfl] at hP hD
  refine lv_dup hx hb d_D_init_1574 rfl ?_
  refine lv_bipush (v := (71 : Int32)) hx hb d_D_init_1575 (by decide) ?_
  refine lv_sipush (v := (1868 : Int32)) hx hb d_D_init_1577 (by decide) ?_
  refine va_iast hx hb hK hP hD hS 3 2 rfl rfl (by unfold vp_in; decide) d_D_init_1580 (fun H locs hP hD hS => ?_)
  have hP : va_P D vwCl ([(x0, .inr (6, fs)), (x1, .inl (c1, 91, .inr (.inl f1))), (x2, .inl (c2, 91, .inl f2)), (q, .inl (cq, 91, .inl (upd (tbI cdL 71) (71 : Int32).toNatClampNeg (1868 : Int32))))]) H := hP
  have hD : va_D A ([(x0, .inr (6, fs)), (x1, .inl (c1, 91, .inr (.inl f1))), (x2, .inl (c2, 91, .inl f2)), (q, .inl (cq, 91, .inl (upd (tbI cdL 71) (71 : Int32).toNatClampNeg (1868 : Int32))))]) := hD
  rw [tbI_s (L := cdL) (k := 71) (i := (71 : Int32)) (v := (1868 : Int32)) rfl rfl] at hP hD
  refine lv_dup hx hb d_D_init_1581 rfl ?_
  refine lv_bipush (v := (72 : Int32)) hx hb d_D_init_1582 (by decide) ?_
  refine lv_bipush (v := (13 : Int32)) hx hb d_D_init_1584 (by decide) ?_
  refine va_iast hx hb hK hP hD hS 3 2 rfl rfl (by unfold vp_in; decide) d_D_init_1586 (fun H locs hP hD hS => ?_)
  have hP : va_P D vwCl ([(x0, .inr (6, fs)), (x1, .inl (c1, 91, .inr (.inl f1))), (x2, .inl (c2, 91, .inl f2)), (q, .inl (cq, 91, .inl (upd (tbI cdL 72) (72 : Int32).toNatClampNeg (13 : Int32))))]) H := hP
  have hD : va_D A ([(x0, .inr (6, fs)), (x1, .inl (c1, 91, .inr (.inl f1))), (x2, .inl (c2, 91, .inl f2)), (q, .inl (cq, 91, .inl (upd (tbI cdL 72) (72 : Int32).toNatClampNeg (13 : Int32))))]) := hD
  rw [tbI_s (L := cdL) (k := 72) (i := (72 : Int32)) (v := (13 : Int32)) rfl rfl] at hP hD
  refine lv_dup hx hb d_D_init_1587 rfl ?_
  refine lv_bipush (v := (73 : Int32)) hx hb d_D_init_1588 (by decide) ?_
  refine lv_sipush (v := (1869 : Int32)) hx hb d_D_init_1590 (by decide) ?_
  refine va_iast hx hb hK hP hD hS 3 2 rfl rfl (by unfold vp_in; decide) d_D_init_1593 (fun H locs hP hD hS => ?_)
  have hP : va_P D vwCl ([(x0, .inr (6, fs)), (x1, .inl (c1, 91, .inr (.inl f1))), (x2, .inl (c2, 91, .inl f2)), (q, .inl (cq, 91, .inl (upd (tbI cdL 73) (73 : Int32).toNatClampNeg (1869 : Int32))))]) H := hP
  have hD : va_D A ([(x0, .inr (6, fs)), (x1, .inl (c1, 91, .inr (.inl f1))), (x2, .inl (c2, 91, .inl f2)), (q, .inl (cq, 91, .inl (upd (tbI cdL 73) (73 : Int32).toNatClampNeg (1869 : Int32))))]) := hD
  rw [tbI_s (L := cdL) (k := 73) (i := (73 : Int32)) (v := (1869 : Int32)) rfl rfl] at hP hD
  refine lv_dup hx hb d_D_init_1594 rfl ?_
  refine lv_bipush (v := (74 : Int32)) hx hb d_D_init_1595 (by decide) ?_
  refine lv_bipush (v := (14 : Int32)) hx hb d_D_init_1597 (by decide) ?_
  refine va_iast hx hb hK hP hD hS 3 2 rfl rfl (by unfold vp_in; decide) d_D_init_1599 (fun H locs hP hD hS => ?_)
  have hP : va_P D vwCl ([(x0, .inr (6, fs)), (x1, .inl (c1, 91, .inr (.inl f1))), (x2, .inl (c2, 91, .inl f2)), (q, .inl (cq, 91, .inl (upd (tbI cdL 74) (74 : Int32).toNatClampNeg (14 : Int32))))]) H := hP
  have hD : va_D A ([(x0, .inr (6, fs)), (x1, .inl (c1, 91, .inr (.inl f1))), (x2, .inl (c2, 91, .inl f2)), (q, .inl (cq, 91, .inl (upd (tbI cdL 74) (74 : Int32).toNatClampNeg (14 : Int32))))]) := hD
  rw [tbI_s (L := cdL) (k := 74) (i := (74 : Int32)) (v := (14 : Int32)) rfl rfl] at hP hD
  refine lv_dup hx hb d_D_init_1600 rfl ?_
  refine lv_bipush (v := (75 : Int32)) hx hb d_D_init_1601 (by decide) ?_
  refine lv_sipush (v := (1870 : Int32)) hx hb d_D_init_1603 (by decide) ?_
  refine va_iast hx hb hK hP hD hS 3 2 rfl rfl (by unfold vp_in; decide) d_D_init_1606 (fun H locs hP hD hS => ?_)
  have hP : va_P D vwCl ([(x0, .inr (6, fs)), (x1, .inl (c1, 91, .inr (.inl f1))), (x2, .inl (c2, 91, .inl f2)), (q, .inl (cq, 91, .inl (upd (tbI cdL 75) (75 : Int32).toNatClampNeg (1870 : Int32))))]) H := hP
  have hD : va_D A ([(x0, .inr (6, fs)), (x1, .inl (c1, 91, .inr (.inl f1))), (x2, .inl (c2, 91, .inl f2)), (q, .inl (cq, 91, .inl (upd (tbI cdL 75) (75 : Int32).toNatClampNeg (1870 : Int32))))]) := hD
  rw [tbI_s (L := cdL) (k := 75) (i := (75 : Int32)) (v := (1870 : Int32)) rfl rfl] at hP hD
  refine lv_dup hx hb d_D_init_1607 rfl ?_
  refine lv_bipush (v := (76 : Int32)) hx hb d_D_init_1608 (by decide) ?_
  refine lv_bipush (v := (15 : Int32)) hx hb d_D_init_1610 (by decide) ?_
  refine va_iast hx hb hK hP hD hS 3 2 rfl rfl (by unfold vp_in; decide) d_D_init_1612 (fun H locs hP hD hS => ?_)
  have hP : va_P D vwCl ([(x0, .inr (6, fs)), (x1, .inl (c1, 91, .inr (.inl f1))), (x2, .inl (c2, 91, .inl f2)), (q, .inl (cq, 91, .inl (upd (tbI cdL 76) (76 : Int32).toNatClampNeg (15 : Int32))))]) H := hP
  have hD : va_D A ([(x0, .inr (6, fs)), (x1, .inl (c1, 91, .inr (.inl f1))), (x2, .inl (c2, 91, .inl f2)), (q, .inl (cq, 91, .inl (upd (tbI cdL 76) (76 : Int32).toNatClampNeg (15 : Int32))))]) := hD
  rw [tbI_s (L := cdL) (k := 76) (i := (76 : Int32)) (v := (15 : Int32)) rfl rfl] at hP hD
  refine lv_dup hx hb d_D_init_1613 rfl ?_
  refine lv_bipush (v := (77 : Int32)) hx hb d_D_init_1614 (by decide) ?_
  refine lv_sipush (v := (1871 : Int32)) hx hb d_D_init_1616 (by decide) ?_
  refine va_iast hx hb hK hP hD hS 3 2 rfl rfl (by unfold vp_in; decide) d_D_init_1619 (fun H locs hP hD hS => ?_)
  have hP : va_P D vwCl ([(x0, .inr (6, fs)), (x1, .inl (c1, 91, .inr (.inl f1))), (x2, .inl (c2, 91, .inl f2)), (q, .inl (cq, 91, .inl (upd (tbI cdL 77) (77 : Int32).toNatClampNeg (1871 : Int32))))]) H := hP
  have hD : va_D A ([(x0, .inr (6, fs)), (x1, .inl (c1, 91, .inr (.inl f1))), (x2, .inl (c2, 91, .inl f2)), (q, .inl (cq, 91, .inl (upd (tbI cdL 77) (77 : Int32).toNatClampNeg (1871 : Int32))))]) := hD
  rw [tbI_s (L := cdL) (k := 77) (i := (77 : Int32)) (v := (1871 : Int32)) rfl rfl] at hP hD
  exact kk H locs hP hD hS
set_option maxHeartbeats 4000000 in
set_option maxRecDepth 100000 in
theorem ch_D_init_1620 {p : Program} {l : Launch} {e : Env} {R : Room} {s : State} {m : MethodId} {args : Array Value} {below : List Frame} {meth : Method} {c : Code} {H : Heap} {locs : List Loc} {cells slots : Nat} {Q : State → Prop} {ls : Array Slot} {D : va_G} {A : Nat → Prop} {fs : List Value} {x0 : Nat} {x1 : Nat} {c1 : ClassId} {f1 : Nat → Int64} {x2 : Nat} {c2 : ClassId} {f2 : Nat → Int32} {q : Nat} {cq : ClassId} {rest : List Value} (hx : p.tables.exec = Jvm.exec) (hb : c.code = c_D_init) (hown : s.vm.findClass "WindowMachineModel" = some m.cls) (ht : ∀ w9 ∈ zT, w9.before args s = true) (hK : va_K D vwCl [(c1, .long), (c2, .int), (cq, .int)] s) (hP : va_P D vwCl [(x0, .inr (6, fs)), (x1, .inl (c1, 91, .inr (.inl f1))), (x2, .inl (c2, 91, .inl f2)), (q, .inl (cq, 91, .inl (tbI cdL 78)))] H) (hD : va_D A [(x0, .inr (6, fs)), (x1, .inl (c1, 91, .inr (.inl f1))), (x2, .inl (c2, 91, .inl f2)), (q, .inl (cq, 91, .inl (tbI cdL 78)))]) (hS : va_S A s.heap H locs)
    (kk : ∀ (H : Heap) (locs : List Loc), va_P D vwCl [(x0, .inr (6, fs)), (x1, .inl (c1, 91, .inr (.inl f1))), (x2, .inl (c2, 91, .inl f2)), (q, .inl (cq, 91, .inl (tbI cdL 91)))] H → va_D A [(x0, .inr (6, fs)), (x1, .inl (c1, 91, .inr (.inl f1))), (x2, .inl (c2, 91, .inl f2)), (q, .inl (cq, 91, .inl (tbI cdL 91)))] → va_S A s.heap H locs → W p l e R s m args below meth c H locs cells slots Q (F0 m 1709 ls (.ref q :: rest))) : W p l e R s m args below meth c H locs cells slots Q (F0 m 1620 ls (.ref q :: rest)) := by
  refine lv_dup hx hb d_D_init_1620 rfl ?_
  refine lv_bipush (v := (78 : Int32)) hx hb d_D_init_1621 (by decide) ?_
  refine lv_sipush (v := (192 : Int32)) hx hb d_D_init_1623 (by decide) ?_
  refine va_iast hx hb hK hP hD hS 3 2 rfl rfl (by unfold vp_in; decide) d_D_init_1626 (fun H locs hP hD hS => ?_)
  have hP : va_P D vwCl ([(x0, .inr (6, fs)), (x1, .inl (c1, 91, .inr (.inl f1))), (x2, .inl (c2, 91, .inl f2)), (q, .inl (cq, 91, .inl (upd (tbI cdL 78) (78 : Int32).toNatClampNeg (192 : Int32))))]) H := hP
  have hD : va_D A ([(x0, .inr (6, fs)), (x1, .inl (c1, 91, .inr (.inl f1))), (x2, .inl (c2, 91, .inl f2)), (q, .inl (cq, 91, .inl (upd (tbI cdL 78) (78 : Int32).toNatClampNeg (192 : Int32))))]) := hD
  rw [tbI_s (L := cdL) (k := 78) (i := (78 : Int32)) (v := (192 : Int32)) rfl rfl] at hP hD
  refine lv_dup hx hb d_D_init_1627 rfl ?_
  refine lv_bipush (v := (79 : Int32)) hx hb d_D_init_1628 (by decide) ?_
  refine lv_sipush (v := (193 : Int32)) hx hb d_D_init_1630 (by decide) ?_
  refine va_iast hx hb hK hP hD hS 3 2 rfl rfl (by unfold vp_in; decide) d_D_init_1633 (fun H locs hP hD hS => ?_)
  have hP : va_P D vwCl ([(x0, .inr (6, fs)), (x1, .inl (c1, 91, .inr (.inl f1))), (x2, .inl (c2, 91, .inl f2)), (q, .inl (cq, 91, .inl (upd (tbI cdL 79) (79 : Int32).toNatClampNeg (193 : Int32))))]) H := hP
  have hD : va_D A ([(x0, .inr (6, fs)), (x1, .inl (c1, 91, .inr (.inl f1))), (x2, .inl (c2, 91, .inl f2)), (q, .inl (cq, 91, .inl (upd (tbI cdL 79) (79 : Int32).toNatClampNeg (193 : Int32))))]) := hD
  rw [tbI_s (L := cdL) (k := 79) (i := (79 : Int32)) (v := (193 : Int32)) rfl rfl] at hP hD
  refine lv_dup hx hb d_D_init_1634 rfl ?_
  refine lv_bipush (v := (80 : Int32)) hx hb d_D_init_1635 (by decide) ?_
  refine lv_sipush (v := (194 : Int32)) hx hb d_D_init_1637 (by decide) ?_
  refine va_iast hx hb hK hP hD hS 3 2 rfl rfl (by unfold vp_in; decide) d_D_init_1640 (fun H locs hP hD hS => ?_)
  have hP : va_P D vwCl ([(x0, .inr (6, fs)), (x1, .inl (c1, 91, .inr (.inl f1))), (x2, .inl (c2, 91, .inl f2)), (q, .inl (cq, 91, .inl (upd (tbI cdL 80) (80 : Int32).toNatClampNeg (194 : Int32))))]) H := hP
  have hD : va_D A ([(x0, .inr (6, fs)), (x1, .inl (c1, 91, .inr (.inl f1))), (x2, .inl (c2, 91, .inl f2)), (q, .inl (cq, 91, .inl (upd (tbI cdL 80) (80 : Int32).toNatClampNeg (194 : Int32))))]) := hD
  rw [tbI_s (L := cdL) (k := 80) (i := (80 : Int32)) (v := (194 : Int32)) rfl rfl] at hP hD
  refine lv_dup hx hb d_D_init_1641 rfl ?_
  refine lv_bipush (v := (81 : Int32)) hx hb d_D_init_1642 (by decide) ?_
  refine lv_sipush (v := (195 : Int32)) hx hb d_D_init_1644 (by decide) ?_
  refine va_iast hx hb hK hP hD hS 3 2 rfl rfl (by unfold vp_in; decide) d_D_init_1647 (fun H locs hP hD hS => ?_)
  have hP : va_P D vwCl ([(x0, .inr (6, fs)), (x1, .inl (c1, 91, .inr (.inl f1))), (x2, .inl (c2, 91, .inl f2)), (q, .inl (cq, 91, .inl (upd (tbI cdL 81) (81 : Int32).toNatClampNeg (195 : Int32))))]) H := hP
  have hD : va_D A ([(x0, .inr (6, fs)), (x1, .inl (c1, 91, .inr (.inl f1))), (x2, .inl (c2, 91, .inl f2)), (q, .inl (cq, 91, .inl (upd (tbI cdL 81) (81 : Int32).toNatClampNeg (195 : Int32))))]) := hD
  rw [tbI_s (L := cdL) (k := 81) (i := (81 : Int32)) (v := (195 : Int32)) rfl rfl] at hP hD
  refine lv_dup hx hb d_D_init_1648 rfl ?_
  refine lv_bipush (v := (82 : Int32)) hx hb d_D_init_1649 (by decide) ?_
  refine lv_sipush (v := (201 : Int32)) hx hb d_D_init_1651 (by decide) ?_
  refine va_iast hx hb hK hP hD hS 3 2 rfl rfl (by unfold vp_in; decide) d_D_init_1654 (fun H locs hP hD hS => ?_)
  have hP : va_P D vwCl ([(x0, .inr (6, fs)), (x1, .inl (c1, 91, .inr (.inl f1))), (x2, .inl (c2, 91, .inl f2)), (q, .inl (cq, 91, .inl (upd (tbI cdL 82) (82 : Int32).toNatClampNeg (201 : Int32))))]) H := hP
  have hD : va_D A ([(x0, .inr (6, fs)), (x1, .inl (c1, 91, .inr (.inl f1))), (x2, .inl (c2, 91, .inl f2)), (q, .inl (cq, 91, .inl (upd (tbI cdL 82) (82 : Int32).toNatClampNeg (201 : Int32))))]) := hD
  rw [tbI_s (L := cdL) (k := 82) (i := (82 : Int32)) (v := (201 : Int32)) rfl rfl] at hP hD
  refine lv_dup hx hb d_D_init_1655 rfl ?_
  refine lv_bipush (v := (83 : Int32)) hx hb d_D_init_1656 (by decide) ?_
  refine lv_sipush (v := (202 : Int32)) hx hb d_D_init_1658 (by decide) ?_
  refine va_iast hx hb hK hP hD hS 3 2 rfl rfl (by unfold vp_in; decide) d_D_init_1661 (fun H locs hP hD hS => ?_)
  have hP : va_P D vwCl ([(x0, .inr (6, fs)), (x1, .inl (c1, 91, .inr (.inl f1))), (x2, .inl (c2, 91, .inl f2)), (q, .inl (cq, 91, .inl (upd (tbI cdL 83) (83 : Int32).toNatClampNeg (202 : Int32))))]) H := hP
  have hD : va_D A ([(x0, .inr (6, fs)), (x1, .inl (c1, 91, .inr (.inl f1))), (x2, .inl (c2, 91, .inl f2)), (q, .inl (cq, 91, .inl (upd (tbI cdL 83) (83 : Int32).toNatClampNeg (202 : Int32))))]) := hD
  rw [tbI_s (L := cdL) (k := 83) (i := (83 : Int32)) (v := (202 : Int32)) rfl rfl] at hP hD
  refine lv_dup hx hb d_D_init_1662 rfl ?_
  refine lv_bipush (v := (84 : Int32)) hx hb d_D_init_1663 (by decide) ?_
  refine lv_sipush (v := (205 : Int32)) hx hb d_D_init_1665 (by decide) ?_
  refine va_iast hx hb hK hP hD hS 3 2 rfl rfl (by unfold vp_in; decide) d_D_init_1668 (fun H locs hP hD hS => ?_)
  have hP : va_P D vwCl ([(x0, .inr (6, fs)), (x1, .inl (c1, 91, .inr (.inl f1))), (x2, .inl (c2, 91, .inl f2)), (q, .inl (cq, 91, .inl (upd (tbI cdL 84) (84 : Int32).toNatClampNeg (205 : Int32))))]) H := hP
  have hD : va_D A ([(x0, .inr (6, fs)), (x1, .inl (c1, 91, .inr (.inl f1))), (x2, .inl (c2, 91, .inl f2)), (q, .inl (cq, 91, .inl (upd (tbI cdL 84) (84 : Int32).toNatClampNeg (205 : Int32))))]) := hD
  rw [tbI_s (L := cdL) (k := 84) (i := (84 : Int32)) (v := (205 : Int32)) rfl rfl] at hP hD
  refine lv_dup hx hb d_D_init_1669 rfl ?_
  refine lv_bipush (v := (85 : Int32)) hx hb d_D_init_1670 (by decide) ?_
  refine lv_sipush (v := (207 : Int32)) hx hb d_D_init_1672 (by decide) ?_
  refine va_iast hx hb hK hP hD hS 3 2 rfl rfl (by unfold vp_in; decide) d_D_init_1675 (fun H locs hP hD hS => ?_)
  have hP : va_P D vwCl ([(x0, .inr (6, fs)), (x1, .inl (c1, 91, .inr (.inl f1))), (x2, .inl (c2, 91, .inl f2)), (q, .inl (cq, 91, .inl (upd (tbI cdL 85) (85 : Int32).toNatClampNeg (207 : Int32))))]) H := hP
  have hD : va_D A ([(x0, .inr (6, fs)), (x1, .inl (c1, 91, .inr (.inl f1))), (x2, .inl (c2, 91, .inl f2)), (q, .inl (cq, 91, .inl (upd (tbI cdL 85) (85 : Int32).toNatClampNeg (207 : Int32))))]) := hD
  rw [tbI_s (L := cdL) (k := 85) (i := (85 : Int32)) (v := (207 : Int32)) rfl rfl] at hP hD
  refine lv_dup hx hb d_D_init_1676 rfl ?_
  refine lv_bipush (v := (86 : Int32)) hx hb d_D_init_1677 (by decide) ?_
  refine lv_sipush (v := (196 : Int32)) hx hb d_D_init_1679 (by decide) ?_
  refine va_iast hx hb hK hP hD hS 3 2 rfl rfl (by unfold vp_in; decide) d_D_init_1682 (fun H locs hP hD hS => ?_)
  have hP : va_P D vwCl ([(x0, .inr (6, fs)), (x1, .inl (c1, 91, .inr (.inl f1))), (x2, .inl (c2, 91, .inl f2)), (q, .inl (cq, 91, .inl (upd (tbI cdL 86) (86 : Int32).toNatClampNeg (196 : Int32))))]) H := hP
  have hD : va_D A ([(x0, .inr (6, fs)), (x1, .inl (c1, 91, .inr (.inl f1))), (x2, .inl (c2, 91, .inl f2)), (q, .inl (cq, 91, .inl (upd (tbI cdL 86) (86 : Int32).toNatClampNeg (196 : Int32))))]) := hD
  rw [tbI_s (L := cdL) (k := 86) (i := (86 : Int32)) (v := (196 : Int32)) rfl rfl] at hP hD
  refine lv_dup hx hb d_D_init_1683 rfl ?_
  refine lv_bipush (v := (87 : Int32)) hx hb d_D_init_1684 (by decide) ?_
  refine lv_sipush (v := (197 : Int32)) hx hb d_D_init_1686 (by decide) ?_
  refine va_iast hx hb hK hP hD hS 3 2 rfl rfl (by unfold vp_in; decide) d_D_init_1689 (fun H locs hP hD hS => ?_)
  have hP : va_P D vwCl ([(x0, .inr (6, fs)), (x1, .inl (c1, 91, .inr (.inl f1))), (x2, .inl (c2, 91, .inl f2)), (q, .inl (cq, 91, .inl (upd (tbI cdL 87) (87 : Int32).toNatClampNeg (197 : Int32))))]) H := hP
  have hD : va_D A ([(x0, .inr (6, fs)), (x1, .inl (c1, 91, .inr (.inl f1))), (x2, .inl (c2, 91, .inl f2)), (q, .inl (cq, 91, .inl (upd (tbI cdL 87) (87 : Int32).toNatClampNeg (197 : Int32))))]) := hD
  rw [tbI_s (L := cdL) (k := 87) (i := (87 : Int32)) (v := (197 : Int32)) rfl rfl] at hP hD
  refine lv_dup hx hb d_D_init_1690 rfl ?_
  refine lv_bipush (v := (88 : Int32)) hx hb d_D_init_1691 (by decide) ?_
  refine lv_sipush (v := (198 : Int32)) hx hb d_D_init_1693 (by decide) ?_
  refine va_iast hx hb hK hP hD hS 3 2 rfl rfl (by unfold vp_in; decide) d_D_init_1696 (fun H locs hP hD hS => ?_)
  have hP : va_P D vwCl ([(x0, .inr (6, fs)), (x1, .inl (c1, 91, .inr (.inl f1))), (x2, .inl (c2, 91, .inl f2)), (q, .inl (cq, 91, .inl (upd (tbI cdL 88) (88 : Int32).toNatClampNeg (198 : Int32))))]) H := hP
  have hD : va_D A ([(x0, .inr (6, fs)), (x1, .inl (c1, 91, .inr (.inl f1))), (x2, .inl (c2, 91, .inl f2)), (q, .inl (cq, 91, .inl (upd (tbI cdL 88) (88 : Int32).toNatClampNeg (198 : Int32))))]) := hD
  rw [tbI_s (L := cdL) (k := 88) (i := (88 : Int32)) (v := (198 : Int32)) rfl rfl] at hP hD
  refine lv_dup hx hb d_D_init_1697 rfl ?_
  refine lv_bipush (v := (89 : Int32)) hx hb d_D_init_1698 (by decide) ?_
  refine lv_sipush (v := (199 : Int32)) hx hb d_D_init_1700 (by decide) ?_
  refine va_iast hx hb hK hP hD hS 3 2 rfl rfl (by unfold vp_in; decide) d_D_init_1703 (fun H locs hP hD hS => ?_)
  have hP : va_P D vwCl ([(x0, .inr (6, fs)), (x1, .inl (c1, 91, .inr (.inl f1))), (x2, .inl (c2, 91, .inl f2)), (q, .inl (cq, 91, .inl (upd (tbI cdL 89) (89 : Int32).toNatClampNeg (199 : Int32))))]) H := hP
  have hD : va_D A ([(x0, .inr (6, fs)), (x1, .inl (c1, 91, .inr (.inl f1))), (x2, .inl (c2, 91, .inl f2)), (q, .inl (cq, 91, .inl (upd (tbI cdL 89) (89 : Int32).toNatClampNeg (199 : Int32))))]) := hD
  rw [tbI_s (L := cdL) (k := 89) (i := (89 : Int32)) (v := (199 : Int32)) rfl rfl] at hP hD
  refine lv_dup hx hb d_D_init_1704 rfl ?_
  refine lv_bipush (v := (90 : Int32)) hx hb d_D_init_1705 (by decide) ?_
  refine lv_iconst (v := (0 : Int32)) hx hb d_D_init_1707 (by decide) ?_
  refine va_iast hx hb hK hP hD hS 3 2 rfl rfl (by unfold vp_in; decide) d_D_init_1708 (fun H locs hP hD hS => ?_)
  have hP : va_P D vwCl ([(x0, .inr (6, fs)), (x1, .inl (c1, 91, .inr (.inl f1))), (x2, .inl (c2, 91, .inl f2)), (q, .inl (cq, 91, .inl (upd (tbI cdL 90) (90 : Int32).toNatClampNeg (0 : Int32))))]) H := hP
  have hD : va_D A ([(x0, .inr (6, fs)), (x1, .inl (c1, 91, .inr (.inl f1))), (x2, .inl (c2, 91, .inl f2)), (q, .inl (cq, 91, .inl (upd (tbI cdL 90) (90 : Int32).toNatClampNeg (0 : Int32))))]) := hD
  rw [tbI_s (L := cdL) (k := 90) (i := (90 : Int32)) (v := (0 : Int32)) rfl rfl] at hP hD
  exact kk H locs hP hD hS
set_option maxHeartbeats 40000000 in
set_option maxRecDepth 100000 in
theorem mt_D_init (l : Launch) (D : va_G)  (a0 : Nat)  (sz : Nat) : Met l y_D_init w_D_init ({ frames := 1, cells := 8, slots := 1409, locals := 22 }) (va_Pc [.ref a0] (zw_pre D vwCl [] sz [(a0, .inr (6, [.null, .null, .null, .int 0, .int 0, .int 0, .int 0, .null, .null, .null, .null, .null, .int 0, .int 0, .int 0, .int 0, .int 0, .int 0, .int 0, .int 0, .int 0, .int 0, .int 0, .int 0, .int 0, .int 0, .int 0, .int 0, .int 0, .int 0, .int 0]))] (fun _ => True))) (va_Qv (fun (u : (Nat → Nat) × (Nat → ClassId)) => u.1 20 = a0) (fun (u : (Nat → Nat) × (Nat → ClassId)) t => zn_at D vwCl (va_A [(a0, .inr (6, [.null, .null, .null, .int 0, .int 0, .int 0, .int 0, .null, .null, .null, .null, .null, .int 0, .int 0, .int 0, .int 0, .int 0, .int 0, .int 0, .int 0, .int 0, .int 0, .int 0, .int 0, .int 0, .int 0, .int 0, .int 0, .int 0, .int 0, .int 0]))] sz) ((fun (u : (Nat → Nat) × (Nat → ClassId)) => wD u.1 u.2 (m_reset stD9 (0 : Int32))) u) ((fun (u : (Nat → Nat) × (Nat → ClassId)) => [(u.2 21, .long), (u.2 22, .int), (u.2 23, .int), (u.2 24, .int), (u.2 25, .int), (u.2 26, .int), (u.2 27, .int), (u.2 28, .int)]) u) t) (va_A [(a0, .inr (6, [.null, .null, .null, .int 0, .int 0, .int 0, .int 0, .null, .null, .null, .null, .null, .int 0, .int 0, .int 0, .int 0, .int 0, .int 0, .int 0, .int 0, .int 0, .int 0, .int 0, .int 0, .int 0, .int 0, .int 0, .int 0, .int 0, .int 0, .int 0]))] sz)) 8 1409 (va_A [(a0, .inr (6, [.null, .null, .null, .int 0, .int 0, .int 0, .int 0, .null, .null, .null, .null, .null, .int 0, .int 0, .int 0, .int 0, .int 0, .int 0, .int 0, .int 0, .int 0, .int 0, .int 0, .int 0, .int 0, .int 0, .int 0, .int 0, .int 0, .int 0, .int 0]))] sz) := by
  refine zmI (l := l) (y := y_D_init) (ws := w_D_init) (av := [.ref a0]) (w := [(a0, .inr (6, [.null, .null, .null, .int 0, .int 0, .int 0, .int 0, .null, .null, .null, .null, .null, .int 0, .int 0, .int 0, .int 0, .int 0, .int 0, .int 0, .int 0, .int 0, .int 0, .int 0, .int 0, .int 0, .int 0, .int 0, .int 0, .int 0, .int 0, .int 0]))]) (tys := []) (sz := sz) (mc := 8) (ms := 1409) (D := D) (cl := vwCl) (Qf := fun A => va_Qv (fun (u : (Nat → Nat) × (Nat → ClassId)) => u.1 20 = a0) (fun (u : (Nat → Nat) × (Nat → ClassId)) t => zn_at D vwCl A ((fun (u : (Nat → Nat) × (Nat → ClassId)) => wD u.1 u.2 (m_reset stD9 (0 : Int32))) u) ((fun (u : (Nat → Nat) × (Nat → ClassId)) => [(u.2 21, .long), (u.2 22, .int), (u.2 23, .int), (u.2 24, .int), (u.2 25, .int), (u.2 26, .int), (u.2 27, .int), (u.2 28, .int)]) u) t) A) (Zf := fun _ _ => True) (cc := c_D_init) (nL := 1) (ret := none) (by decide) (by rfl) rfl (Nat.le_of_ble_eq_true rfl) ?_
  intro p e s m below meth c9 A H locs ls hx hb hml hown hts hr hlocks hin hA hK hP hD hS hZ hl
  have hl : lv_has ls 1 [(0, .ref a0)] := hl
  have ht : ∀ w9 ∈ zT, w9.before _ s = true := fun w9 h9 => hts w9 (List.mem_cons_of_mem _ h9)
  refine lv_aload_n hx hb d_D_init_0 rfl (lv_at hl 0 rfl) ?_
  refine W.objInit hx hb hown (ht _ zw_758) (ht _ zw_25) (ht _ zw_26) rfl (by rw [hml]; exact hl.1) rfl d_D_init_1 (Nat.le_of_ble_eq_true rfl) (Nat.le_of_ble_eq_true rfl) ?_
  refine W.eq (g2 := F0 m 4 ls []) rfl ?_
  refine lv_aload_n hx hb d_D_init_4 rfl (lv_at hl 0 rfl) ?_
  refine lv_bipush (v := (91 : Int32)) hx hb d_D_init_5 (by decide) ?_
  refine va_newa (D := D) (atype := .long) hx hb (ht _ zw_948) (ty := .long) rfl hK hP hD hS hA (N' := 91) (a0 := (91, .inr (.inl (fun _ => (0 : Int64))))) (fun _ => rfl) (by decide) rfl (by decide) (Nat.le_of_ble_eq_true rfl) (Nat.le_of_ble_eq_true rfl) d_D_init_7 (fun q_1 c_2 H hK hP hD hS => ?_)
  have hP : va_P D vwCl [(a0, .inr (6, [.null, .null, .null, .int 0, .int 0, .int 0, .int 0, .null, .null, .null, .null, .null, .int 0, .int 0, .int 0, .int 0, .int 0, .int 0, .int 0, .int 0, .int 0, .int 0, .int 0, .int 0, .int 0, .int 0, .int 0, .int 0, .int 0, .int 0, .int 0])), (q_1, .inl (c_2, 91, .inr (.inl (fun _ => (0 : Int64)))))] H := hP
  have hD : va_D A [(a0, .inr (6, [.null, .null, .null, .int 0, .int 0, .int 0, .int 0, .null, .null, .null, .null, .null, .int 0, .int 0, .int 0, .int 0, .int 0, .int 0, .int 0, .int 0, .int 0, .int 0, .int 0, .int 0, .int 0, .int 0, .int 0, .int 0, .int 0, .int 0, .int 0])), (q_1, .inl (c_2, 91, .inr (.inl (fun _ => (0 : Int64)))))] := hD
  have hK : va_K D vwCl [(c_2, .long)] s := hK
  rw [tbL_0 nmL] at hP hD
  have hP : va_P D vwCl [(a0, .inr (6, [.null, .null, .null, .int 0, .int 0, .int 0, .int 0, .null, .null, .null, .null, .null, .int 0, .int 0, .int 0, .int 0, .int 0, .int 0, .int 0, .int 0, .int 0, .int 0, .int 0, .int 0, .int 0, .int 0, .int 0, .int 0, .int 0, .int 0, .int 0])), (q_1, .inl (c_2, 91, .inr (.inl (tbL nmL 0))))] H := hP
  have hD : va_D A [(a0, .inr (6, [.null, .null, .null, .int 0, .int 0, .int 0, .int 0, .null, .null, .null, .null, .null, .int 0, .int 0, .int 0, .int 0, .int 0, .int 0, .int 0, .int 0, .int 0, .int 0, .int 0, .int 0, .int 0, .int 0, .int 0, .int 0, .int 0, .int 0, .int 0])), (q_1, .inl (c_2, 91, .inr (.inl (tbL nmL 0))))] := hD
  refine ch_D_init_9 hx hb hown ht hK hP hD hS (fun H locs hP hD hS => ?_)
  have hP : va_P D vwCl [(a0, .inr (6, [.null, .null, .null, .int 0, .int 0, .int 0, .int 0, .null, .null, .null, .null, .null, .int 0, .int 0, .int 0, .int 0, .int 0, .int 0, .int 0, .int 0, .int 0, .int 0, .int 0, .int 0, .int 0, .int 0, .int 0, .int 0, .int 0, .int 0, .int 0])), (q_1, .inl (c_2, 91, .inr (.inl (tbL nmL 13))))] H := hP
  have hD : va_D A [(a0, .inr (6, [.null, .null, .null, .int 0, .int 0, .int 0, .int 0, .null, .null, .null, .null, .null, .int 0, .int 0, .int 0, .int 0, .int 0, .int 0, .int 0, .int 0, .int 0, .int 0, .int 0, .int 0, .int 0, .int 0, .int 0, .int 0, .int 0, .int 0, .int 0])), (q_1, .inl (c_2, 91, .inr (.inl (tbL nmL 13))))] := hD
  refine ch_D_init_94 hx hb hown ht hK hP hD hS (fun H locs hP hD hS => ?_)
  have hP : va_P D vwCl [(a0, .inr (6, [.null, .null, .null, .int 0, .int 0, .int 0, .int 0, .null, .null, .null, .null, .null, .int 0, .int 0, .int 0, .int 0, .int 0, .int 0, .int 0, .int 0, .int 0, .int 0, .int 0, .int 0, .int 0, .int 0, .int 0, .int 0, .int 0, .int 0, .int 0])), (q_1, .inl (c_2, 91, .inr (.inl (tbL nmL 26))))] H := hP
  have hD : va_D A [(a0, .inr (6, [.null, .null, .null, .int 0, .int 0, .int 0, .int 0, .null, .null, .null, .null, .null, .int 0, .int 0, .int 0, .int 0, .int 0, .int 0, .int 0, .int 0, .int 0, .int 0, .int 0, .int 0, .int 0, .int 0, .int 0, .int 0, .int 0, .int 0, .int 0])), (q_1, .inl (c_2, 91, .inr (.inl (tbL nmL 26))))] := hD
  refine ch_D_init_185 hx hb hown ht hK hP hD hS (fun H locs hP hD hS => ?_)
  have hP : va_P D vwCl [(a0, .inr (6, [.null, .null, .null, .int 0, .int 0, .int 0, .int 0, .null, .null, .null, .null, .null, .int 0, .int 0, .int 0, .int 0, .int 0, .int 0, .int 0, .int 0, .int 0, .int 0, .int 0, .int 0, .int 0, .int 0, .int 0, .int 0, .int 0, .int 0, .int 0])), (q_1, .inl (c_2, 91, .inr (.inl (tbL nmL 39))))] H := hP
  have hD : va_D A [(a0, .inr (6, [.null, .null, .null, .int 0, .int 0, .int 0, .int 0, .null, .null, .null, .null, .null, .int 0, .int 0, .int 0, .int 0, .int 0, .int 0, .int 0, .int 0, .int 0, .int 0, .int 0, .int 0, .int 0, .int 0, .int 0, .int 0, .int 0, .int 0, .int 0])), (q_1, .inl (c_2, 91, .inr (.inl (tbL nmL 39))))] := hD
  refine ch_D_init_276 hx hb hown ht hK hP hD hS (fun H locs hP hD hS => ?_)
  have hP : va_P D vwCl [(a0, .inr (6, [.null, .null, .null, .int 0, .int 0, .int 0, .int 0, .null, .null, .null, .null, .null, .int 0, .int 0, .int 0, .int 0, .int 0, .int 0, .int 0, .int 0, .int 0, .int 0, .int 0, .int 0, .int 0, .int 0, .int 0, .int 0, .int 0, .int 0, .int 0])), (q_1, .inl (c_2, 91, .inr (.inl (tbL nmL 52))))] H := hP
  have hD : va_D A [(a0, .inr (6, [.null, .null, .null, .int 0, .int 0, .int 0, .int 0, .null, .null, .null, .null, .null, .int 0, .int 0, .int 0, .int 0, .int 0, .int 0, .int 0, .int 0, .int 0, .int 0, .int 0, .int 0, .int 0, .int 0, .int 0, .int 0, .int 0, .int 0, .int 0])), (q_1, .inl (c_2, 91, .inr (.inl (tbL nmL 52))))] := hD
  refine ch_D_init_367 hx hb hown ht hK hP hD hS (fun H locs hP hD hS => ?_)
  have hP : va_P D vwCl [(a0, .inr (6, [.null, .null, .null, .int 0, .int 0, .int 0, .int 0, .null, .null, .null, .null, .null, .int 0, .int 0, .int 0, .int 0, .int 0, .int 0, .int 0, .int 0, .int 0, .int 0, .int 0, .int 0, .int 0, .int 0, .int 0, .int 0, .int 0, .int 0, .int 0])), (q_1, .inl (c_2, 91, .inr (.inl (tbL nmL 65))))] H := hP
  have hD : va_D A [(a0, .inr (6, [.null, .null, .null, .int 0, .int 0, .int 0, .int 0, .null, .null, .null, .null, .null, .int 0, .int 0, .int 0, .int 0, .int 0, .int 0, .int 0, .int 0, .int 0, .int 0, .int 0, .int 0, .int 0, .int 0, .int 0, .int 0, .int 0, .int 0, .int 0])), (q_1, .inl (c_2, 91, .inr (.inl (tbL nmL 65))))] := hD
  refine ch_D_init_458 hx hb hown ht hK hP hD hS (fun H locs hP hD hS => ?_)
  have hP : va_P D vwCl [(a0, .inr (6, [.null, .null, .null, .int 0, .int 0, .int 0, .int 0, .null, .null, .null, .null, .null, .int 0, .int 0, .int 0, .int 0, .int 0, .int 0, .int 0, .int 0, .int 0, .int 0, .int 0, .int 0, .int 0, .int 0, .int 0, .int 0, .int 0, .int 0, .int 0])), (q_1, .inl (c_2, 91, .inr (.inl (tbL nmL 78))))] H := hP
  have hD : va_D A [(a0, .inr (6, [.null, .null, .null, .int 0, .int 0, .int 0, .int 0, .null, .null, .null, .null, .null, .int 0, .int 0, .int 0, .int 0, .int 0, .int 0, .int 0, .int 0, .int 0, .int 0, .int 0, .int 0, .int 0, .int 0, .int 0, .int 0, .int 0, .int 0, .int 0])), (q_1, .inl (c_2, 91, .inr (.inl (tbL nmL 78))))] := hD
  refine ch_D_init_549 hx hb hown ht hK hP hD hS (fun H locs hP hD hS => ?_)
  have hP : va_P D vwCl [(a0, .inr (6, [.null, .null, .null, .int 0, .int 0, .int 0, .int 0, .null, .null, .null, .null, .null, .int 0, .int 0, .int 0, .int 0, .int 0, .int 0, .int 0, .int 0, .int 0, .int 0, .int 0, .int 0, .int 0, .int 0, .int 0, .int 0, .int 0, .int 0, .int 0])), (q_1, .inl (c_2, 91, .inr (.inl (tbL nmL 91))))] H := hP
  have hD : va_D A [(a0, .inr (6, [.null, .null, .null, .int 0, .int 0, .int 0, .int 0, .null, .null, .null, .null, .null, .int 0, .int 0, .int 0, .int 0, .int 0, .int 0, .int 0, .int 0, .int 0, .int 0, .int 0, .int 0, .int 0, .int 0, .int 0, .int 0, .int 0, .int 0, .int 0])), (q_1, .inl (c_2, 91, .inr (.inl (tbL nmL 91))))] := hD
  rw [show tbL nmL 91 = nmT from tbL_all rfl] at hP hD
  have hP : va_P D vwCl [(a0, .inr (6, [.null, .null, .null, .int 0, .int 0, .int 0, .int 0, .null, .null, .null, .null, .null, .int 0, .int 0, .int 0, .int 0, .int 0, .int 0, .int 0, .int 0, .int 0, .int 0, .int 0, .int 0, .int 0, .int 0, .int 0, .int 0, .int 0, .int 0, .int 0])), (q_1, .inl (c_2, 91, .inr (.inl nmT)))] H := hP
  have hD : va_D A [(a0, .inr (6, [.null, .null, .null, .int 0, .int 0, .int 0, .int 0, .null, .null, .null, .null, .null, .int 0, .int 0, .int 0, .int 0, .int 0, .int 0, .int 0, .int 0, .int 0, .int 0, .int 0, .int 0, .int 0, .int 0, .int 0, .int 0, .int 0, .int 0, .int 0])), (q_1, .inl (c_2, 91, .inr (.inl nmT)))] := hD
  refine va_putF (D := D) (ci := 6) (v := .ref q_1) (ty := (.array .long)) (C := "WindowMachineModel") (T := T_D) (N := 31) hx hb ht zi_D ty_D tyok_D nm_D hown hK hP hD hS 0 rfl rfl 0 (by decide) (ht _ zw_854) (fun _ h9 => h9) rfl hin rfl (by decide +kernel) rfl rfl (Nat.le_of_ble_eq_true rfl) d_D_init_640 (fun H locs hP hD hS => ?_)
  have hP : va_P D vwCl [(a0, .inr (6, [.ref q_1, .null, .null, .int 0, .int 0, .int 0, .int 0, .null, .null, .null, .null, .null, .int 0, .int 0, .int 0, .int 0, .int 0, .int 0, .int 0, .int 0, .int 0, .int 0, .int 0, .int 0, .int 0, .int 0, .int 0, .int 0, .int 0, .int 0, .int 0])), (q_1, .inl (c_2, 91, .inr (.inl nmT)))] H := hP
  have hD : va_D A [(a0, .inr (6, [.ref q_1, .null, .null, .int 0, .int 0, .int 0, .int 0, .null, .null, .null, .null, .null, .int 0, .int 0, .int 0, .int 0, .int 0, .int 0, .int 0, .int 0, .int 0, .int 0, .int 0, .int 0, .int 0, .int 0, .int 0, .int 0, .int 0, .int 0, .int 0])), (q_1, .inl (c_2, 91, .inr (.inl nmT)))] := hD
  refine lv_aload_n hx hb d_D_init_643 rfl (lv_at hl 0 rfl) ?_
  refine lv_bipush (v := (91 : Int32)) hx hb d_D_init_644 (by decide) ?_
  refine va_newa (D := D) (atype := .int) hx hb (ht _ zw_37) (ty := .int) rfl hK hP hD hS hA (N' := 91) (a0 := (91, .inl (fun _ => (0 : Int32)))) (fun _ => rfl) (by decide) rfl (by decide) (Nat.le_of_ble_eq_true rfl) (Nat.le_of_ble_eq_true rfl) d_D_init_646 (fun q_3 c_4 H hK hP hD hS => ?_)
  have hP : va_P D vwCl [(a0, .inr (6, [.ref q_1, .null, .null, .int 0, .int 0, .int 0, .int 0, .null, .null, .null, .null, .null, .int 0, .int 0, .int 0, .int 0, .int 0, .int 0, .int 0, .int 0, .int 0, .int 0, .int 0, .int 0, .int 0, .int 0, .int 0, .int 0, .int 0, .int 0, .int 0])), (q_1, .inl (c_2, 91, .inr (.inl nmT))), (q_3, .inl (c_4, 91, .inl (fun _ => (0 : Int32))))] H := hP
  have hD : va_D A [(a0, .inr (6, [.ref q_1, .null, .null, .int 0, .int 0, .int 0, .int 0, .null, .null, .null, .null, .null, .int 0, .int 0, .int 0, .int 0, .int 0, .int 0, .int 0, .int 0, .int 0, .int 0, .int 0, .int 0, .int 0, .int 0, .int 0, .int 0, .int 0, .int 0, .int 0])), (q_1, .inl (c_2, 91, .inr (.inl nmT))), (q_3, .inl (c_4, 91, .inl (fun _ => (0 : Int32))))] := hD
  have hK : va_K D vwCl [(c_2, .long), (c_4, .int)] s := hK
  rw [tbI_0 fmL] at hP hD
  have hP : va_P D vwCl [(a0, .inr (6, [.ref q_1, .null, .null, .int 0, .int 0, .int 0, .int 0, .null, .null, .null, .null, .null, .int 0, .int 0, .int 0, .int 0, .int 0, .int 0, .int 0, .int 0, .int 0, .int 0, .int 0, .int 0, .int 0, .int 0, .int 0, .int 0, .int 0, .int 0, .int 0])), (q_1, .inl (c_2, 91, .inr (.inl nmT))), (q_3, .inl (c_4, 91, .inl (tbI fmL 0)))] H := hP
  have hD : va_D A [(a0, .inr (6, [.ref q_1, .null, .null, .int 0, .int 0, .int 0, .int 0, .null, .null, .null, .null, .null, .int 0, .int 0, .int 0, .int 0, .int 0, .int 0, .int 0, .int 0, .int 0, .int 0, .int 0, .int 0, .int 0, .int 0, .int 0, .int 0, .int 0, .int 0, .int 0])), (q_1, .inl (c_2, 91, .inr (.inl nmT))), (q_3, .inl (c_4, 91, .inl (tbI fmL 0)))] := hD
  refine ch_D_init_648 hx hb hown ht hK hP hD hS (fun H locs hP hD hS => ?_)
  have hP : va_P D vwCl [(a0, .inr (6, [.ref q_1, .null, .null, .int 0, .int 0, .int 0, .int 0, .null, .null, .null, .null, .null, .int 0, .int 0, .int 0, .int 0, .int 0, .int 0, .int 0, .int 0, .int 0, .int 0, .int 0, .int 0, .int 0, .int 0, .int 0, .int 0, .int 0, .int 0, .int 0])), (q_1, .inl (c_2, 91, .inr (.inl nmT))), (q_3, .inl (c_4, 91, .inl (tbI fmL 13)))] H := hP
  have hD : va_D A [(a0, .inr (6, [.ref q_1, .null, .null, .int 0, .int 0, .int 0, .int 0, .null, .null, .null, .null, .null, .int 0, .int 0, .int 0, .int 0, .int 0, .int 0, .int 0, .int 0, .int 0, .int 0, .int 0, .int 0, .int 0, .int 0, .int 0, .int 0, .int 0, .int 0, .int 0])), (q_1, .inl (c_2, 91, .inr (.inl nmT))), (q_3, .inl (c_4, 91, .inl (tbI fmL 13)))] := hD
  refine ch_D_init_707 hx hb hown ht hK hP hD hS (fun H locs hP hD hS => ?_)
  have hP : va_P D vwCl [(a0, .inr (6, [.ref q_1, .null, .null, .int 0, .int 0, .int 0, .int 0, .null, .null, .null, .null, .null, .int 0, .int 0, .int 0, .int 0, .int 0, .int 0, .int 0, .int 0, .int 0, .int 0, .int 0, .int 0, .int 0, .int 0, .int 0, .int 0, .int 0, .int 0, .int 0])), (q_1, .inl (c_2, 91, .inr (.inl nmT))), (q_3, .inl (c_4, 91, .inl (tbI fmL 26)))] H := hP
  have hD : va_D A [(a0, .inr (6, [.ref q_1, .null, .null, .int 0, .int 0, .int 0, .int 0, .null, .null, .null, .null, .null, .int 0, .int 0, .int 0, .int 0, .int 0, .int 0, .int 0, .int 0, .int 0, .int 0, .int 0, .int 0, .int 0, .int 0, .int 0, .int 0, .int 0, .int 0, .int 0])), (q_1, .inl (c_2, 91, .inr (.inl nmT))), (q_3, .inl (c_4, 91, .inl (tbI fmL 26)))] := hD
  refine ch_D_init_772 hx hb hown ht hK hP hD hS (fun H locs hP hD hS => ?_)
  have hP : va_P D vwCl [(a0, .inr (6, [.ref q_1, .null, .null, .int 0, .int 0, .int 0, .int 0, .null, .null, .null, .null, .null, .int 0, .int 0, .int 0, .int 0, .int 0, .int 0, .int 0, .int 0, .int 0, .int 0, .int 0, .int 0, .int 0, .int 0, .int 0, .int 0, .int 0, .int 0, .int 0])), (q_1, .inl (c_2, 91, .inr (.inl nmT))), (q_3, .inl (c_4, 91, .inl (tbI fmL 39)))] H := hP
  have hD : va_D A [(a0, .inr (6, [.ref q_1, .null, .null, .int 0, .int 0, .int 0, .int 0, .null, .null, .null, .null, .null, .int 0, .int 0, .int 0, .int 0, .int 0, .int 0, .int 0, .int 0, .int 0, .int 0, .int 0, .int 0, .int 0, .int 0, .int 0, .int 0, .int 0, .int 0, .int 0])), (q_1, .inl (c_2, 91, .inr (.inl nmT))), (q_3, .inl (c_4, 91, .inl (tbI fmL 39)))] := hD
  refine ch_D_init_837 hx hb hown ht hK hP hD hS (fun H locs hP hD hS => ?_)
  have hP : va_P D vwCl [(a0, .inr (6, [.ref q_1, .null, .null, .int 0, .int 0, .int 0, .int 0, .null, .null, .null, .null, .null, .int 0, .int 0, .int 0, .int 0, .int 0, .int 0, .int 0, .int 0, .int 0, .int 0, .int 0, .int 0, .int 0, .int 0, .int 0, .int 0, .int 0, .int 0, .int 0])), (q_1, .inl (c_2, 91, .inr (.inl nmT))), (q_3, .inl (c_4, 91, .inl (tbI fmL 52)))] H := hP
  have hD : va_D A [(a0, .inr (6, [.ref q_1, .null, .null, .int 0, .int 0, .int 0, .int 0, .null, .null, .null, .null, .null, .int 0, .int 0, .int 0, .int 0, .int 0, .int 0, .int 0, .int 0, .int 0, .int 0, .int 0, .int 0, .int 0, .int 0, .int 0, .int 0, .int 0, .int 0, .int 0])), (q_1, .inl (c_2, 91, .inr (.inl nmT))), (q_3, .inl (c_4, 91, .inl (tbI fmL 52)))] := hD
  refine ch_D_init_902 hx hb hown ht hK hP hD hS (fun H locs hP hD hS => ?_)
  have hP : va_P D vwCl [(a0, .inr (6, [.ref q_1, .null, .null, .int 0, .int 0, .int 0, .int 0, .null, .null, .null, .null, .null, .int 0, .int 0, .int 0, .int 0, .int 0, .int 0, .int 0, .int 0, .int 0, .int 0, .int 0, .int 0, .int 0, .int 0, .int 0, .int 0, .int 0, .int 0, .int 0])), (q_1, .inl (c_2, 91, .inr (.inl nmT))), (q_3, .inl (c_4, 91, .inl (tbI fmL 65)))] H := hP
  have hD : va_D A [(a0, .inr (6, [.ref q_1, .null, .null, .int 0, .int 0, .int 0, .int 0, .null, .null, .null, .null, .null, .int 0, .int 0, .int 0, .int 0, .int 0, .int 0, .int 0, .int 0, .int 0, .int 0, .int 0, .int 0, .int 0, .int 0, .int 0, .int 0, .int 0, .int 0, .int 0])), (q_1, .inl (c_2, 91, .inr (.inl nmT))), (q_3, .inl (c_4, 91, .inl (tbI fmL 65)))] := hD
  refine ch_D_init_967 hx hb hown ht hK hP hD hS (fun H locs hP hD hS => ?_)
  have hP : va_P D vwCl [(a0, .inr (6, [.ref q_1, .null, .null, .int 0, .int 0, .int 0, .int 0, .null, .null, .null, .null, .null, .int 0, .int 0, .int 0, .int 0, .int 0, .int 0, .int 0, .int 0, .int 0, .int 0, .int 0, .int 0, .int 0, .int 0, .int 0, .int 0, .int 0, .int 0, .int 0])), (q_1, .inl (c_2, 91, .inr (.inl nmT))), (q_3, .inl (c_4, 91, .inl (tbI fmL 78)))] H := hP
  have hD : va_D A [(a0, .inr (6, [.ref q_1, .null, .null, .int 0, .int 0, .int 0, .int 0, .null, .null, .null, .null, .null, .int 0, .int 0, .int 0, .int 0, .int 0, .int 0, .int 0, .int 0, .int 0, .int 0, .int 0, .int 0, .int 0, .int 0, .int 0, .int 0, .int 0, .int 0, .int 0])), (q_1, .inl (c_2, 91, .inr (.inl nmT))), (q_3, .inl (c_4, 91, .inl (tbI fmL 78)))] := hD
  refine ch_D_init_1032 hx hb hown ht hK hP hD hS (fun H locs hP hD hS => ?_)
  have hP : va_P D vwCl [(a0, .inr (6, [.ref q_1, .null, .null, .int 0, .int 0, .int 0, .int 0, .null, .null, .null, .null, .null, .int 0, .int 0, .int 0, .int 0, .int 0, .int 0, .int 0, .int 0, .int 0, .int 0, .int 0, .int 0, .int 0, .int 0, .int 0, .int 0, .int 0, .int 0, .int 0])), (q_1, .inl (c_2, 91, .inr (.inl nmT))), (q_3, .inl (c_4, 91, .inl (tbI fmL 91)))] H := hP
  have hD : va_D A [(a0, .inr (6, [.ref q_1, .null, .null, .int 0, .int 0, .int 0, .int 0, .null, .null, .null, .null, .null, .int 0, .int 0, .int 0, .int 0, .int 0, .int 0, .int 0, .int 0, .int 0, .int 0, .int 0, .int 0, .int 0, .int 0, .int 0, .int 0, .int 0, .int 0, .int 0])), (q_1, .inl (c_2, 91, .inr (.inl nmT))), (q_3, .inl (c_4, 91, .inl (tbI fmL 91)))] := hD
  rw [show tbI fmL 91 = fmT from tbI_all rfl] at hP hD
  have hP : va_P D vwCl [(a0, .inr (6, [.ref q_1, .null, .null, .int 0, .int 0, .int 0, .int 0, .null, .null, .null, .null, .null, .int 0, .int 0, .int 0, .int 0, .int 0, .int 0, .int 0, .int 0, .int 0, .int 0, .int 0, .int 0, .int 0, .int 0, .int 0, .int 0, .int 0, .int 0, .int 0])), (q_1, .inl (c_2, 91, .inr (.inl nmT))), (q_3, .inl (c_4, 91, .inl fmT))] H := hP
  have hD : va_D A [(a0, .inr (6, [.ref q_1, .null, .null, .int 0, .int 0, .int 0, .int 0, .null, .null, .null, .null, .null, .int 0, .int 0, .int 0, .int 0, .int 0, .int 0, .int 0, .int 0, .int 0, .int 0, .int 0, .int 0, .int 0, .int 0, .int 0, .int 0, .int 0, .int 0, .int 0])), (q_1, .inl (c_2, 91, .inr (.inl nmT))), (q_3, .inl (c_4, 91, .inl fmT))] := hD
  refine va_putF (D := D) (ci := 6) (v := .ref q_3) (ty := (.array .int)) (C := "WindowMachineModel") (T := T_D) (N := 31) hx hb ht zi_D ty_D tyok_D nm_D hown hK hP hD hS 0 rfl rfl 1 (by decide) (ht _ zw_855) (fun _ h9 => h9) rfl hin rfl (by decide +kernel) rfl rfl (Nat.le_of_ble_eq_true rfl) d_D_init_1102 (fun H locs hP hD hS => ?_)
  have hP : va_P D vwCl [(a0, .inr (6, [.ref q_1, .ref q_3, .null, .int 0, .int 0, .int 0, .int 0, .null, .null, .null, .null, .null, .int 0, .int 0, .int 0, .int 0, .int 0, .int 0, .int 0, .int 0, .int 0, .int 0, .int 0, .int 0, .int 0, .int 0, .int 0, .int 0, .int 0, .int 0, .int 0])), (q_1, .inl (c_2, 91, .inr (.inl nmT))), (q_3, .inl (c_4, 91, .inl fmT))] H := hP
  have hD : va_D A [(a0, .inr (6, [.ref q_1, .ref q_3, .null, .int 0, .int 0, .int 0, .int 0, .null, .null, .null, .null, .null, .int 0, .int 0, .int 0, .int 0, .int 0, .int 0, .int 0, .int 0, .int 0, .int 0, .int 0, .int 0, .int 0, .int 0, .int 0, .int 0, .int 0, .int 0, .int 0])), (q_1, .inl (c_2, 91, .inr (.inl nmT))), (q_3, .inl (c_4, 91, .inl fmT))] := hD
  refine lv_aload_n hx hb d_D_init_1105 rfl (lv_at hl 0 rfl) ?_
  refine lv_bipush (v := (91 : Int32)) hx hb d_D_init_1106 (by decide) ?_
  refine va_newa (D := D) (atype := .int) hx hb (ht _ zw_37) (ty := .int) rfl hK hP hD hS hA (N' := 91) (a0 := (91, .inl (fun _ => (0 : Int32)))) (fun _ => rfl) (by decide) rfl (by decide) (Nat.le_of_ble_eq_true rfl) (Nat.le_of_ble_eq_true rfl) d_D_init_1108 (fun q_5 c_6 H hK hP hD hS => ?_)
  have hP : va_P D vwCl [(a0, .inr (6, [.ref q_1, .ref q_3, .null, .int 0, .int 0, .int 0, .int 0, .null, .null, .null, .null, .null, .int 0, .int 0, .int 0, .int 0, .int 0, .int 0, .int 0, .int 0, .int 0, .int 0, .int 0, .int 0, .int 0, .int 0, .int 0, .int 0, .int 0, .int 0, .int 0])), (q_1, .inl (c_2, 91, .inr (.inl nmT))), (q_3, .inl (c_4, 91, .inl fmT)), (q_5, .inl (c_6, 91, .inl (fun _ => (0 : Int32))))] H := hP
  have hD : va_D A [(a0, .inr (6, [.ref q_1, .ref q_3, .null, .int 0, .int 0, .int 0, .int 0, .null, .null, .null, .null, .null, .int 0, .int 0, .int 0, .int 0, .int 0, .int 0, .int 0, .int 0, .int 0, .int 0, .int 0, .int 0, .int 0, .int 0, .int 0, .int 0, .int 0, .int 0, .int 0])), (q_1, .inl (c_2, 91, .inr (.inl nmT))), (q_3, .inl (c_4, 91, .inl fmT)), (q_5, .inl (c_6, 91, .inl (fun _ => (0 : Int32))))] := hD
  have hK : va_K D vwCl [(c_2, .long), (c_4, .int), (c_6, .int)] s := hK
  rw [tbI_0 cdL] at hP hD
  have hP : va_P D vwCl [(a0, .inr (6, [.ref q_1, .ref q_3, .null, .int 0, .int 0, .int 0, .int 0, .null, .null, .null, .null, .null, .int 0, .int 0, .int 0, .int 0, .int 0, .int 0, .int 0, .int 0, .int 0, .int 0, .int 0, .int 0, .int 0, .int 0, .int 0, .int 0, .int 0, .int 0, .int 0])), (q_1, .inl (c_2, 91, .inr (.inl nmT))), (q_3, .inl (c_4, 91, .inl fmT)), (q_5, .inl (c_6, 91, .inl (tbI cdL 0)))] H := hP
  have hD : va_D A [(a0, .inr (6, [.ref q_1, .ref q_3, .null, .int 0, .int 0, .int 0, .int 0, .null, .null, .null, .null, .null, .int 0, .int 0, .int 0, .int 0, .int 0, .int 0, .int 0, .int 0, .int 0, .int 0, .int 0, .int 0, .int 0, .int 0, .int 0, .int 0, .int 0, .int 0, .int 0])), (q_1, .inl (c_2, 91, .inr (.inl nmT))), (q_3, .inl (c_4, 91, .inl fmT)), (q_5, .inl (c_6, 91, .inl (tbI cdL 0)))] := hD
  refine ch_D_init_1110 hx hb hown ht hK hP hD hS (fun H locs hP hD hS => ?_)
  have hP : va_P D vwCl [(a0, .inr (6, [.ref q_1, .ref q_3, .null, .int 0, .int 0, .int 0, .int 0, .null, .null, .null, .null, .null, .int 0, .int 0, .int 0, .int 0, .int 0, .int 0, .int 0, .int 0, .int 0, .int 0, .int 0, .int 0, .int 0, .int 0, .int 0, .int 0, .int 0, .int 0, .int 0])), (q_1, .inl (c_2, 91, .inr (.inl nmT))), (q_3, .inl (c_4, 91, .inl fmT)), (q_5, .inl (c_6, 91, .inl (tbI cdL 13)))] H := hP
  have hD : va_D A [(a0, .inr (6, [.ref q_1, .ref q_3, .null, .int 0, .int 0, .int 0, .int 0, .null, .null, .null, .null, .null, .int 0, .int 0, .int 0, .int 0, .int 0, .int 0, .int 0, .int 0, .int 0, .int 0, .int 0, .int 0, .int 0, .int 0, .int 0, .int 0, .int 0, .int 0, .int 0])), (q_1, .inl (c_2, 91, .inr (.inl nmT))), (q_3, .inl (c_4, 91, .inl fmT)), (q_5, .inl (c_6, 91, .inl (tbI cdL 13)))] := hD
  refine ch_D_init_1195 hx hb hown ht hK hP hD hS (fun H locs hP hD hS => ?_)
  have hP : va_P D vwCl [(a0, .inr (6, [.ref q_1, .ref q_3, .null, .int 0, .int 0, .int 0, .int 0, .null, .null, .null, .null, .null, .int 0, .int 0, .int 0, .int 0, .int 0, .int 0, .int 0, .int 0, .int 0, .int 0, .int 0, .int 0, .int 0, .int 0, .int 0, .int 0, .int 0, .int 0, .int 0])), (q_1, .inl (c_2, 91, .inr (.inl nmT))), (q_3, .inl (c_4, 91, .inl fmT)), (q_5, .inl (c_6, 91, .inl (tbI cdL 26)))] H := hP
  have hD : va_D A [(a0, .inr (6, [.ref q_1, .ref q_3, .null, .int 0, .int 0, .int 0, .int 0, .null, .null, .null, .null, .null, .int 0, .int 0, .int 0, .int 0, .int 0, .int 0, .int 0, .int 0, .int 0, .int 0, .int 0, .int 0, .int 0, .int 0, .int 0, .int 0, .int 0, .int 0, .int 0])), (q_1, .inl (c_2, 91, .inr (.inl nmT))), (q_3, .inl (c_4, 91, .inl fmT)), (q_5, .inl (c_6, 91, .inl (tbI cdL 26)))] := hD
  refine ch_D_init_1286 hx hb hown ht hK hP hD hS (fun H locs hP hD hS => ?_)
  have hP : va_P D vwCl [(a0, .inr (6, [.ref q_1, .ref q_3, .null, .int 0, .int 0, .int 0, .int 0, .null, .null, .null, .null, .null, .int 0, .int 0, .int 0, .int 0, .int 0, .int 0, .int 0, .int 0, .int 0, .int 0, .int 0, .int 0, .int 0, .int 0, .int 0, .int 0, .int 0, .int 0, .int 0])), (q_1, .inl (c_2, 91, .inr (.inl nmT))), (q_3, .inl (c_4, 91, .inl fmT)), (q_5, .inl (c_6, 91, .inl (tbI cdL 39)))] H := hP
  have hD : va_D A [(a0, .inr (6, [.ref q_1, .ref q_3, .null, .int 0, .int 0, .int 0, .int 0, .null, .null, .null, .null, .null, .int 0, .int 0, .int 0, .int 0, .int 0, .int 0, .int 0, .int 0, .int 0, .int 0, .int 0, .int 0, .int 0, .int 0, .int 0, .int 0, .int 0, .int 0, .int 0])), (q_1, .inl (c_2, 91, .inr (.inl nmT))), (q_3, .inl (c_4, 91, .inl fmT)), (q_5, .inl (c_6, 91, .inl (tbI cdL 39)))] := hD
  refine ch_D_init_1372 hx hb hown ht hK hP hD hS (fun H locs hP hD hS => ?_)
  have hP : va_P D vwCl [(a0, .inr (6, [.ref q_1, .ref q_3, .null, .int 0, .int 0, .int 0, .int 0, .null, .null, .null, .null, .null, .int 0, .int 0, .int 0, .int 0, .int 0, .int 0, .int 0, .int 0, .int 0, .int 0, .int 0, .int 0, .int 0, .int 0, .int 0, .int 0, .int 0, .int 0, .int 0])), (q_1, .inl (c_2, 91, .inr (.inl nmT))), (q_3, .inl (c_4, 91, .inl fmT)), (q_5, .inl (c_6, 91, .inl (tbI cdL 52)))] H := hP
  have hD : va_D A [(a0, .inr (6, [.ref q_1, .ref q_3, .null, .int 0, .int 0, .int 0, .int 0, .null, .null, .null, .null, .null, .int 0, .int 0, .int 0, .int 0, .int 0, .int 0, .int 0, .int 0, .int 0, .int 0, .int 0, .int 0, .int 0, .int 0, .int 0, .int 0, .int 0, .int 0, .int 0])), (q_1, .inl (c_2, 91, .inr (.inl nmT))), (q_3, .inl (c_4, 91, .inl fmT)), (q_5, .inl (c_6, 91, .inl (tbI cdL 52)))] := hD
  refine ch_D_init_1454 hx hb hown ht hK hP hD hS (fun H locs hP hD hS => ?_)
  have hP : va_P D vwCl [(a0, .inr (6, [.ref q_1, .ref q_3, .null, .int 0, .int 0, .int 0, .int 0, .null, .null, .null, .null, .null, .int 0, .int 0, .int 0, .int 0, .int 0, .int 0, .int 0, .int 0, .int 0, .int 0, .int 0, .int 0, .int 0, .int 0, .int 0, .int 0, .int 0, .int 0, .int 0])), (q_1, .inl (c_2, 91, .inr (.inl nmT))), (q_3, .inl (c_4, 91, .inl fmT)), (q_5, .inl (c_6, 91, .inl (tbI cdL 65)))] H := hP
  have hD : va_D A [(a0, .inr (6, [.ref q_1, .ref q_3, .null, .int 0, .int 0, .int 0, .int 0, .null, .null, .null, .null, .null, .int 0, .int 0, .int 0, .int 0, .int 0, .int 0, .int 0, .int 0, .int 0, .int 0, .int 0, .int 0, .int 0, .int 0, .int 0, .int 0, .int 0, .int 0, .int 0])), (q_1, .inl (c_2, 91, .inr (.inl nmT))), (q_3, .inl (c_4, 91, .inl fmT)), (q_5, .inl (c_6, 91, .inl (tbI cdL 65)))] := hD
  refine ch_D_init_1535 hx hb hown ht hK hP hD hS (fun H locs hP hD hS => ?_)
  have hP : va_P D vwCl [(a0, .inr (6, [.ref q_1, .ref q_3, .null, .int 0, .int 0, .int 0, .int 0, .null, .null, .null, .null, .null, .int 0, .int 0, .int 0, .int 0, .int 0, .int 0, .int 0, .int 0, .int 0, .int 0, .int 0, .int 0, .int 0, .int 0, .int 0, .int 0, .int 0, .int 0, .int 0])), (q_1, .inl (c_2, 91, .inr (.inl nmT))), (q_3, .inl (c_4, 91, .inl fmT)), (q_5, .inl (c_6, 91, .inl (tbI cdL 78)))] H := hP
  have hD : va_D A [(a0, .inr (6, [.ref q_1, .ref q_3, .null, .int 0, .int 0, .int 0, .int 0, .null, .null, .null, .null, .null, .int 0, .int 0, .int 0, .int 0, .int 0, .int 0, .int 0, .int 0, .int 0, .int 0, .int 0, .int 0, .int 0, .int 0, .int 0, .int 0, .int 0, .int 0, .int 0])), (q_1, .inl (c_2, 91, .inr (.inl nmT))), (q_3, .inl (c_4, 91, .inl fmT)), (q_5, .inl (c_6, 91, .inl (tbI cdL 78)))] := hD
  refine ch_D_init_1620 hx hb hown ht hK hP hD hS (fun H locs hP hD hS => ?_)
  have hP : va_P D vwCl [(a0, .inr (6, [.ref q_1, .ref q_3, .null, .int 0, .int 0, .int 0, .int 0, .null, .null, .null, .null, .null, .int 0, .int 0, .int 0, .int 0, .int 0, .int 0, .int 0, .int 0, .int 0, .int 0, .int 0, .int 0, .int 0, .int 0, .int 0, .int 0, .int 0, .int 0, .int 0])), (q_1, .inl (c_2, 91, .inr (.inl nmT))), (q_3, .inl (c_4, 91, .inl fmT)), (q_5, .inl (c_6, 91, .inl (tbI cdL 91)))] H := hP
  have hD : va_D A [(a0, .inr (6, [.ref q_1, .ref q_3, .null, .int 0, .int 0, .int 0, .int 0, .null, .null, .null, .null, .null, .int 0, .int 0, .int 0, .int 0, .int 0, .int 0, .int 0, .int 0, .int 0, .int 0, .int 0, .int 0, .int 0, .int 0, .int 0, .int 0, .int 0, .int 0, .int 0])), (q_1, .inl (c_2, 91, .inr (.inl nmT))), (q_3, .inl (c_4, 91, .inl fmT)), (q_5, .inl (c_6, 91, .inl (tbI cdL 91)))] := hD
  rw [show tbI cdL 91 = cdT from tbI_all rfl] at hP hD
  have hP : va_P D vwCl [(a0, .inr (6, [.ref q_1, .ref q_3, .null, .int 0, .int 0, .int 0, .int 0, .null, .null, .null, .null, .null, .int 0, .int 0, .int 0, .int 0, .int 0, .int 0, .int 0, .int 0, .int 0, .int 0, .int 0, .int 0, .int 0, .int 0, .int 0, .int 0, .int 0, .int 0, .int 0])), (q_1, .inl (c_2, 91, .inr (.inl nmT))), (q_3, .inl (c_4, 91, .inl fmT)), (q_5, .inl (c_6, 91, .inl cdT))] H := hP
  have hD : va_D A [(a0, .inr (6, [.ref q_1, .ref q_3, .null, .int 0, .int 0, .int 0, .int 0, .null, .null, .null, .null, .null, .int 0, .int 0, .int 0, .int 0, .int 0, .int 0, .int 0, .int 0, .int 0, .int 0, .int 0, .int 0, .int 0, .int 0, .int 0, .int 0, .int 0, .int 0, .int 0])), (q_1, .inl (c_2, 91, .inr (.inl nmT))), (q_3, .inl (c_4, 91, .inl fmT)), (q_5, .inl (c_6, 91, .inl cdT))] := hD
  refine va_putF (D := D) (ci := 6) (v := .ref q_5) (ty := (.array .int)) (C := "WindowMachineModel") (T := T_D) (N := 31) hx hb ht zi_D ty_D tyok_D nm_D hown hK hP hD hS 0 rfl rfl 2 (by decide) (ht _ zw_856) (fun _ h9 => h9) rfl hin rfl (by decide +kernel) rfl rfl (Nat.le_of_ble_eq_true rfl) d_D_init_1709 (fun H locs hP hD hS => ?_)
  have hP : va_P D vwCl [(a0, .inr (6, [.ref q_1, .ref q_3, .ref q_5, .int 0, .int 0, .int 0, .int 0, .null, .null, .null, .null, .null, .int 0, .int 0, .int 0, .int 0, .int 0, .int 0, .int 0, .int 0, .int 0, .int 0, .int 0, .int 0, .int 0, .int 0, .int 0, .int 0, .int 0, .int 0, .int 0])), (q_1, .inl (c_2, 91, .inr (.inl nmT))), (q_3, .inl (c_4, 91, .inl fmT)), (q_5, .inl (c_6, 91, .inl cdT))] H := hP
  have hD : va_D A [(a0, .inr (6, [.ref q_1, .ref q_3, .ref q_5, .int 0, .int 0, .int 0, .int 0, .null, .null, .null, .null, .null, .int 0, .int 0, .int 0, .int 0, .int 0, .int 0, .int 0, .int 0, .int 0, .int 0, .int 0, .int 0, .int 0, .int 0, .int 0, .int 0, .int 0, .int 0, .int 0])), (q_1, .inl (c_2, 91, .inr (.inl nmT))), (q_3, .inl (c_4, 91, .inl fmT)), (q_5, .inl (c_6, 91, .inl cdT))] := hD
  refine lv_aload_n hx hb d_D_init_1712 rfl (lv_at hl 0 rfl) ?_
  refine lv_iconst (v := (-1 : Int32)) hx hb d_D_init_1713 (by decide) ?_
  refine va_put (D := D) (ci := 6) (v := .int (-1 : Int32)) (ty := .int) (C := "WindowMachineModel") (T := T_D) (N := 31) hx hb ht zi_D ty_D tyok_D nm_D hown hK hP hD hS 0 rfl rfl 5 (by decide) (ht _ zw_859) (fun _ h9 => h9) rfl (by decide +kernel) rfl rfl (Nat.le_of_ble_eq_true rfl) d_D_init_1714 (fun H locs hP hD hS => ?_)
  have hP : va_P D vwCl [(a0, .inr (6, [.ref q_1, .ref q_3, .ref q_5, .int 0, .int 0, .int (-1 : Int32), .int 0, .null, .null, .null, .null, .null, .int 0, .int 0, .int 0, .int 0, .int 0, .int 0, .int 0, .int 0, .int 0, .int 0, .int 0, .int 0, .int 0, .int 0, .int 0, .int 0, .int 0, .int 0, .int 0])), (q_1, .inl (c_2, 91, .inr (.inl nmT))), (q_3, .inl (c_4, 91, .inl fmT)), (q_5, .inl (c_6, 91, .inl cdT))] H := hP
  have hD : va_D A [(a0, .inr (6, [.ref q_1, .ref q_3, .ref q_5, .int 0, .int 0, .int (-1 : Int32), .int 0, .null, .null, .null, .null, .null, .int 0, .int 0, .int 0, .int 0, .int 0, .int 0, .int 0, .int 0, .int 0, .int 0, .int 0, .int 0, .int 0, .int 0, .int 0, .int 0, .int 0, .int 0, .int 0])), (q_1, .inl (c_2, 91, .inr (.inl nmT))), (q_3, .inl (c_4, 91, .inl fmT)), (q_5, .inl (c_6, 91, .inl cdT))] := hD
  refine lv_aload_n hx hb d_D_init_1717 rfl (lv_at hl 0 rfl) ?_
  refine lv_bipush (v := (40 : Int32)) hx hb d_D_init_1718 (by decide) ?_
  refine va_newa (D := D) (atype := .int) hx hb (ht _ zw_37) (ty := .int) rfl hK hP hD hS hA (N' := 40) (a0 := (40, .inl (fun _ => (0 : Int32)))) (fun _ => rfl) (by decide) rfl (by decide) (Nat.le_of_ble_eq_true rfl) (Nat.le_of_ble_eq_true rfl) d_D_init_1720 (fun q_7 c_8 H hK hP hD hS => ?_)
  have hP : va_P D vwCl [(a0, .inr (6, [.ref q_1, .ref q_3, .ref q_5, .int 0, .int 0, .int (-1 : Int32), .int 0, .null, .null, .null, .null, .null, .int 0, .int 0, .int 0, .int 0, .int 0, .int 0, .int 0, .int 0, .int 0, .int 0, .int 0, .int 0, .int 0, .int 0, .int 0, .int 0, .int 0, .int 0, .int 0])), (q_1, .inl (c_2, 91, .inr (.inl nmT))), (q_3, .inl (c_4, 91, .inl fmT)), (q_5, .inl (c_6, 91, .inl cdT)), (q_7, .inl (c_8, 40, .inl (fun _ => (0 : Int32))))] H := hP
  have hD : va_D A [(a0, .inr (6, [.ref q_1, .ref q_3, .ref q_5, .int 0, .int 0, .int (-1 : Int32), .int 0, .null, .null, .null, .null, .null, .int 0, .int 0, .int 0, .int 0, .int 0, .int 0, .int 0, .int 0, .int 0, .int 0, .int 0, .int 0, .int 0, .int 0, .int 0, .int 0, .int 0, .int 0, .int 0])), (q_1, .inl (c_2, 91, .inr (.inl nmT))), (q_3, .inl (c_4, 91, .inl fmT)), (q_5, .inl (c_6, 91, .inl cdT)), (q_7, .inl (c_8, 40, .inl (fun _ => (0 : Int32))))] := hD
  have hK : va_K D vwCl [(c_2, .long), (c_4, .int), (c_6, .int), (c_8, .int)] s := hK
  refine va_putF (D := D) (ci := 6) (v := .ref q_7) (ty := (.array .int)) (C := "WindowMachineModel") (T := T_D) (N := 31) hx hb ht zi_D ty_D tyok_D nm_D hown hK hP hD hS 0 rfl rfl 7 (by decide) (ht _ zw_861) (fun _ h9 => h9) rfl hin rfl (by decide +kernel) rfl rfl (Nat.le_of_ble_eq_true rfl) d_D_init_1722 (fun H locs hP hD hS => ?_)
  have hP : va_P D vwCl [(a0, .inr (6, [.ref q_1, .ref q_3, .ref q_5, .int 0, .int 0, .int (-1 : Int32), .int 0, .ref q_7, .null, .null, .null, .null, .int 0, .int 0, .int 0, .int 0, .int 0, .int 0, .int 0, .int 0, .int 0, .int 0, .int 0, .int 0, .int 0, .int 0, .int 0, .int 0, .int 0, .int 0, .int 0])), (q_1, .inl (c_2, 91, .inr (.inl nmT))), (q_3, .inl (c_4, 91, .inl fmT)), (q_5, .inl (c_6, 91, .inl cdT)), (q_7, .inl (c_8, 40, .inl (fun _ => (0 : Int32))))] H := hP
  have hD : va_D A [(a0, .inr (6, [.ref q_1, .ref q_3, .ref q_5, .int 0, .int 0, .int (-1 : Int32), .int 0, .ref q_7, .null, .null, .null, .null, .int 0, .int 0, .int 0, .int 0, .int 0, .int 0, .int 0, .int 0, .int 0, .int 0, .int 0, .int 0, .int 0, .int 0, .int 0, .int 0, .int 0, .int 0, .int 0])), (q_1, .inl (c_2, 91, .inr (.inl nmT))), (q_3, .inl (c_4, 91, .inl fmT)), (q_5, .inl (c_6, 91, .inl cdT)), (q_7, .inl (c_8, 40, .inl (fun _ => (0 : Int32))))] := hD
  refine lv_aload_n hx hb d_D_init_1725 rfl (lv_at hl 0 rfl) ?_
  refine lv_sipush (v := (1024 : Int32)) hx hb d_D_init_1726 (by decide) ?_
  refine va_newa (D := D) (atype := .int) hx hb (ht _ zw_37) (ty := .int) rfl hK hP hD hS hA (N' := 1024) (a0 := (1024, .inl (fun _ => (0 : Int32)))) (fun _ => rfl) (by decide) rfl (by decide) (Nat.le_of_ble_eq_true rfl) (Nat.le_of_ble_eq_true rfl) d_D_init_1729 (fun q_9 c_10 H hK hP hD hS => ?_)
  have hP : va_P D vwCl [(a0, .inr (6, [.ref q_1, .ref q_3, .ref q_5, .int 0, .int 0, .int (-1 : Int32), .int 0, .ref q_7, .null, .null, .null, .null, .int 0, .int 0, .int 0, .int 0, .int 0, .int 0, .int 0, .int 0, .int 0, .int 0, .int 0, .int 0, .int 0, .int 0, .int 0, .int 0, .int 0, .int 0, .int 0])), (q_1, .inl (c_2, 91, .inr (.inl nmT))), (q_3, .inl (c_4, 91, .inl fmT)), (q_5, .inl (c_6, 91, .inl cdT)), (q_7, .inl (c_8, 40, .inl (fun _ => (0 : Int32)))), (q_9, .inl (c_10, 1024, .inl (fun _ => (0 : Int32))))] H := hP
  have hD : va_D A [(a0, .inr (6, [.ref q_1, .ref q_3, .ref q_5, .int 0, .int 0, .int (-1 : Int32), .int 0, .ref q_7, .null, .null, .null, .null, .int 0, .int 0, .int 0, .int 0, .int 0, .int 0, .int 0, .int 0, .int 0, .int 0, .int 0, .int 0, .int 0, .int 0, .int 0, .int 0, .int 0, .int 0, .int 0])), (q_1, .inl (c_2, 91, .inr (.inl nmT))), (q_3, .inl (c_4, 91, .inl fmT)), (q_5, .inl (c_6, 91, .inl cdT)), (q_7, .inl (c_8, 40, .inl (fun _ => (0 : Int32)))), (q_9, .inl (c_10, 1024, .inl (fun _ => (0 : Int32))))] := hD
  have hK : va_K D vwCl [(c_2, .long), (c_4, .int), (c_6, .int), (c_8, .int), (c_10, .int)] s := hK
  refine va_putF (D := D) (ci := 6) (v := .ref q_9) (ty := (.array .int)) (C := "WindowMachineModel") (T := T_D) (N := 31) hx hb ht zi_D ty_D tyok_D nm_D hown hK hP hD hS 0 rfl rfl 8 (by decide) (ht _ zw_862) (fun _ h9 => h9) rfl hin rfl (by decide +kernel) rfl rfl (Nat.le_of_ble_eq_true rfl) d_D_init_1731 (fun H locs hP hD hS => ?_)
  have hP : va_P D vwCl [(a0, .inr (6, [.ref q_1, .ref q_3, .ref q_5, .int 0, .int 0, .int (-1 : Int32), .int 0, .ref q_7, .ref q_9, .null, .null, .null, .int 0, .int 0, .int 0, .int 0, .int 0, .int 0, .int 0, .int 0, .int 0, .int 0, .int 0, .int 0, .int 0, .int 0, .int 0, .int 0, .int 0, .int 0, .int 0])), (q_1, .inl (c_2, 91, .inr (.inl nmT))), (q_3, .inl (c_4, 91, .inl fmT)), (q_5, .inl (c_6, 91, .inl cdT)), (q_7, .inl (c_8, 40, .inl (fun _ => (0 : Int32)))), (q_9, .inl (c_10, 1024, .inl (fun _ => (0 : Int32))))] H := hP
  have hD : va_D A [(a0, .inr (6, [.ref q_1, .ref q_3, .ref q_5, .int 0, .int 0, .int (-1 : Int32), .int 0, .ref q_7, .ref q_9, .null, .null, .null, .int 0, .int 0, .int 0, .int 0, .int 0, .int 0, .int 0, .int 0, .int 0, .int 0, .int 0, .int 0, .int 0, .int 0, .int 0, .int 0, .int 0, .int 0, .int 0])), (q_1, .inl (c_2, 91, .inr (.inl nmT))), (q_3, .inl (c_4, 91, .inl fmT)), (q_5, .inl (c_6, 91, .inl cdT)), (q_7, .inl (c_8, 40, .inl (fun _ => (0 : Int32)))), (q_9, .inl (c_10, 1024, .inl (fun _ => (0 : Int32))))] := hD
  refine lv_aload_n hx hb d_D_init_1734 rfl (lv_at hl 0 rfl) ?_
  refine lv_bipush (v := (8 : Int32)) hx hb d_D_init_1735 (by decide) ?_
  refine va_newa (D := D) (atype := .int) hx hb (ht _ zw_37) (ty := .int) rfl hK hP hD hS hA (N' := 8) (a0 := (8, .inl (fun _ => (0 : Int32)))) (fun _ => rfl) (by decide) rfl (by decide) (Nat.le_of_ble_eq_true rfl) (Nat.le_of_ble_eq_true rfl) d_D_init_1737 (fun q_11 c_12 H hK hP hD hS => ?_)
  have hP : va_P D vwCl [(a0, .inr (6, [.ref q_1, .ref q_3, .ref q_5, .int 0, .int 0, .int (-1 : Int32), .int 0, .ref q_7, .ref q_9, .null, .null, .null, .int 0, .int 0, .int 0, .int 0, .int 0, .int 0, .int 0, .int 0, .int 0, .int 0, .int 0, .int 0, .int 0, .int 0, .int 0, .int 0, .int 0, .int 0, .int 0])), (q_1, .inl (c_2, 91, .inr (.inl nmT))), (q_3, .inl (c_4, 91, .inl fmT)), (q_5, .inl (c_6, 91, .inl cdT)), (q_7, .inl (c_8, 40, .inl (fun _ => (0 : Int32)))), (q_9, .inl (c_10, 1024, .inl (fun _ => (0 : Int32)))), (q_11, .inl (c_12, 8, .inl (fun _ => (0 : Int32))))] H := hP
  have hD : va_D A [(a0, .inr (6, [.ref q_1, .ref q_3, .ref q_5, .int 0, .int 0, .int (-1 : Int32), .int 0, .ref q_7, .ref q_9, .null, .null, .null, .int 0, .int 0, .int 0, .int 0, .int 0, .int 0, .int 0, .int 0, .int 0, .int 0, .int 0, .int 0, .int 0, .int 0, .int 0, .int 0, .int 0, .int 0, .int 0])), (q_1, .inl (c_2, 91, .inr (.inl nmT))), (q_3, .inl (c_4, 91, .inl fmT)), (q_5, .inl (c_6, 91, .inl cdT)), (q_7, .inl (c_8, 40, .inl (fun _ => (0 : Int32)))), (q_9, .inl (c_10, 1024, .inl (fun _ => (0 : Int32)))), (q_11, .inl (c_12, 8, .inl (fun _ => (0 : Int32))))] := hD
  have hK : va_K D vwCl [(c_2, .long), (c_4, .int), (c_6, .int), (c_8, .int), (c_10, .int), (c_12, .int)] s := hK
  refine va_putF (D := D) (ci := 6) (v := .ref q_11) (ty := (.array .int)) (C := "WindowMachineModel") (T := T_D) (N := 31) hx hb ht zi_D ty_D tyok_D nm_D hown hK hP hD hS 0 rfl rfl 9 (by decide) (ht _ zw_863) (fun _ h9 => h9) rfl hin rfl (by decide +kernel) rfl rfl (Nat.le_of_ble_eq_true rfl) d_D_init_1739 (fun H locs hP hD hS => ?_)
  have hP : va_P D vwCl [(a0, .inr (6, [.ref q_1, .ref q_3, .ref q_5, .int 0, .int 0, .int (-1 : Int32), .int 0, .ref q_7, .ref q_9, .ref q_11, .null, .null, .int 0, .int 0, .int 0, .int 0, .int 0, .int 0, .int 0, .int 0, .int 0, .int 0, .int 0, .int 0, .int 0, .int 0, .int 0, .int 0, .int 0, .int 0, .int 0])), (q_1, .inl (c_2, 91, .inr (.inl nmT))), (q_3, .inl (c_4, 91, .inl fmT)), (q_5, .inl (c_6, 91, .inl cdT)), (q_7, .inl (c_8, 40, .inl (fun _ => (0 : Int32)))), (q_9, .inl (c_10, 1024, .inl (fun _ => (0 : Int32)))), (q_11, .inl (c_12, 8, .inl (fun _ => (0 : Int32))))] H := hP
  have hD : va_D A [(a0, .inr (6, [.ref q_1, .ref q_3, .ref q_5, .int 0, .int 0, .int (-1 : Int32), .int 0, .ref q_7, .ref q_9, .ref q_11, .null, .null, .int 0, .int 0, .int 0, .int 0, .int 0, .int 0, .int 0, .int 0, .int 0, .int 0, .int 0, .int 0, .int 0, .int 0, .int 0, .int 0, .int 0, .int 0, .int 0])), (q_1, .inl (c_2, 91, .inr (.inl nmT))), (q_3, .inl (c_4, 91, .inl fmT)), (q_5, .inl (c_6, 91, .inl cdT)), (q_7, .inl (c_8, 40, .inl (fun _ => (0 : Int32)))), (q_9, .inl (c_10, 1024, .inl (fun _ => (0 : Int32)))), (q_11, .inl (c_12, 8, .inl (fun _ => (0 : Int32))))] := hD
  refine lv_aload_n hx hb d_D_init_1742 rfl (lv_at hl 0 rfl) ?_
  refine lv_bipush (v := (32 : Int32)) hx hb d_D_init_1743 (by decide) ?_
  refine va_newa (D := D) (atype := .int) hx hb (ht _ zw_37) (ty := .int) rfl hK hP hD hS hA (N' := 32) (a0 := (32, .inl (fun _ => (0 : Int32)))) (fun _ => rfl) (by decide) rfl (by decide) (Nat.le_of_ble_eq_true rfl) (Nat.le_of_ble_eq_true rfl) d_D_init_1745 (fun q_13 c_14 H hK hP hD hS => ?_)
  have hP : va_P D vwCl [(a0, .inr (6, [.ref q_1, .ref q_3, .ref q_5, .int 0, .int 0, .int (-1 : Int32), .int 0, .ref q_7, .ref q_9, .ref q_11, .null, .null, .int 0, .int 0, .int 0, .int 0, .int 0, .int 0, .int 0, .int 0, .int 0, .int 0, .int 0, .int 0, .int 0, .int 0, .int 0, .int 0, .int 0, .int 0, .int 0])), (q_1, .inl (c_2, 91, .inr (.inl nmT))), (q_3, .inl (c_4, 91, .inl fmT)), (q_5, .inl (c_6, 91, .inl cdT)), (q_7, .inl (c_8, 40, .inl (fun _ => (0 : Int32)))), (q_9, .inl (c_10, 1024, .inl (fun _ => (0 : Int32)))), (q_11, .inl (c_12, 8, .inl (fun _ => (0 : Int32)))), (q_13, .inl (c_14, 32, .inl (fun _ => (0 : Int32))))] H := hP
  have hD : va_D A [(a0, .inr (6, [.ref q_1, .ref q_3, .ref q_5, .int 0, .int 0, .int (-1 : Int32), .int 0, .ref q_7, .ref q_9, .ref q_11, .null, .null, .int 0, .int 0, .int 0, .int 0, .int 0, .int 0, .int 0, .int 0, .int 0, .int 0, .int 0, .int 0, .int 0, .int 0, .int 0, .int 0, .int 0, .int 0, .int 0])), (q_1, .inl (c_2, 91, .inr (.inl nmT))), (q_3, .inl (c_4, 91, .inl fmT)), (q_5, .inl (c_6, 91, .inl cdT)), (q_7, .inl (c_8, 40, .inl (fun _ => (0 : Int32)))), (q_9, .inl (c_10, 1024, .inl (fun _ => (0 : Int32)))), (q_11, .inl (c_12, 8, .inl (fun _ => (0 : Int32)))), (q_13, .inl (c_14, 32, .inl (fun _ => (0 : Int32))))] := hD
  have hK : va_K D vwCl [(c_2, .long), (c_4, .int), (c_6, .int), (c_8, .int), (c_10, .int), (c_12, .int), (c_14, .int)] s := hK
  refine va_putF (D := D) (ci := 6) (v := .ref q_13) (ty := (.array .int)) (C := "WindowMachineModel") (T := T_D) (N := 31) hx hb ht zi_D ty_D tyok_D nm_D hown hK hP hD hS 0 rfl rfl 10 (by decide) (ht _ zw_864) (fun _ h9 => h9) rfl hin rfl (by decide +kernel) rfl rfl (Nat.le_of_ble_eq_true rfl) d_D_init_1747 (fun H locs hP hD hS => ?_)
  have hP : va_P D vwCl [(a0, .inr (6, [.ref q_1, .ref q_3, .ref q_5, .int 0, .int 0, .int (-1 : Int32), .int 0, .ref q_7, .ref q_9, .ref q_11, .ref q_13, .null, .int 0, .int 0, .int 0, .int 0, .int 0, .int 0, .int 0, .int 0, .int 0, .int 0, .int 0, .int 0, .int 0, .int 0, .int 0, .int 0, .int 0, .int 0, .int 0])), (q_1, .inl (c_2, 91, .inr (.inl nmT))), (q_3, .inl (c_4, 91, .inl fmT)), (q_5, .inl (c_6, 91, .inl cdT)), (q_7, .inl (c_8, 40, .inl (fun _ => (0 : Int32)))), (q_9, .inl (c_10, 1024, .inl (fun _ => (0 : Int32)))), (q_11, .inl (c_12, 8, .inl (fun _ => (0 : Int32)))), (q_13, .inl (c_14, 32, .inl (fun _ => (0 : Int32))))] H := hP
  have hD : va_D A [(a0, .inr (6, [.ref q_1, .ref q_3, .ref q_5, .int 0, .int 0, .int (-1 : Int32), .int 0, .ref q_7, .ref q_9, .ref q_11, .ref q_13, .null, .int 0, .int 0, .int 0, .int 0, .int 0, .int 0, .int 0, .int 0, .int 0, .int 0, .int 0, .int 0, .int 0, .int 0, .int 0, .int 0, .int 0, .int 0, .int 0])), (q_1, .inl (c_2, 91, .inr (.inl nmT))), (q_3, .inl (c_4, 91, .inl fmT)), (q_5, .inl (c_6, 91, .inl cdT)), (q_7, .inl (c_8, 40, .inl (fun _ => (0 : Int32)))), (q_9, .inl (c_10, 1024, .inl (fun _ => (0 : Int32)))), (q_11, .inl (c_12, 8, .inl (fun _ => (0 : Int32)))), (q_13, .inl (c_14, 32, .inl (fun _ => (0 : Int32))))] := hD
  refine lv_aload_n hx hb d_D_init_1750 rfl (lv_at hl 0 rfl) ?_
  refine lv_bipush (v := (32 : Int32)) hx hb d_D_init_1751 (by decide) ?_
  refine va_newa (D := D) (atype := .int) hx hb (ht _ zw_37) (ty := .int) rfl hK hP hD hS hA (N' := 32) (a0 := (32, .inl (fun _ => (0 : Int32)))) (fun _ => rfl) (by decide) rfl (by decide) (Nat.le_of_ble_eq_true rfl) (Nat.le_of_ble_eq_true rfl) d_D_init_1753 (fun q_15 c_16 H hK hP hD hS => ?_)
  have hP : va_P D vwCl [(a0, .inr (6, [.ref q_1, .ref q_3, .ref q_5, .int 0, .int 0, .int (-1 : Int32), .int 0, .ref q_7, .ref q_9, .ref q_11, .ref q_13, .null, .int 0, .int 0, .int 0, .int 0, .int 0, .int 0, .int 0, .int 0, .int 0, .int 0, .int 0, .int 0, .int 0, .int 0, .int 0, .int 0, .int 0, .int 0, .int 0])), (q_1, .inl (c_2, 91, .inr (.inl nmT))), (q_3, .inl (c_4, 91, .inl fmT)), (q_5, .inl (c_6, 91, .inl cdT)), (q_7, .inl (c_8, 40, .inl (fun _ => (0 : Int32)))), (q_9, .inl (c_10, 1024, .inl (fun _ => (0 : Int32)))), (q_11, .inl (c_12, 8, .inl (fun _ => (0 : Int32)))), (q_13, .inl (c_14, 32, .inl (fun _ => (0 : Int32)))), (q_15, .inl (c_16, 32, .inl (fun _ => (0 : Int32))))] H := hP
  have hD : va_D A [(a0, .inr (6, [.ref q_1, .ref q_3, .ref q_5, .int 0, .int 0, .int (-1 : Int32), .int 0, .ref q_7, .ref q_9, .ref q_11, .ref q_13, .null, .int 0, .int 0, .int 0, .int 0, .int 0, .int 0, .int 0, .int 0, .int 0, .int 0, .int 0, .int 0, .int 0, .int 0, .int 0, .int 0, .int 0, .int 0, .int 0])), (q_1, .inl (c_2, 91, .inr (.inl nmT))), (q_3, .inl (c_4, 91, .inl fmT)), (q_5, .inl (c_6, 91, .inl cdT)), (q_7, .inl (c_8, 40, .inl (fun _ => (0 : Int32)))), (q_9, .inl (c_10, 1024, .inl (fun _ => (0 : Int32)))), (q_11, .inl (c_12, 8, .inl (fun _ => (0 : Int32)))), (q_13, .inl (c_14, 32, .inl (fun _ => (0 : Int32)))), (q_15, .inl (c_16, 32, .inl (fun _ => (0 : Int32))))] := hD
  have hK : va_K D vwCl [(c_2, .long), (c_4, .int), (c_6, .int), (c_8, .int), (c_10, .int), (c_12, .int), (c_14, .int), (c_16, .int)] s := hK
  refine va_putF (D := D) (ci := 6) (v := .ref q_15) (ty := (.array .int)) (C := "WindowMachineModel") (T := T_D) (N := 31) hx hb ht zi_D ty_D tyok_D nm_D hown hK hP hD hS 0 rfl rfl 11 (by decide) (ht _ zw_865) (fun _ h9 => h9) rfl hin rfl (by decide +kernel) rfl rfl (Nat.le_of_ble_eq_true rfl) d_D_init_1755 (fun H locs hP hD hS => ?_)
  have hP : va_P D vwCl [(a0, .inr (6, [.ref q_1, .ref q_3, .ref q_5, .int 0, .int 0, .int (-1 : Int32), .int 0, .ref q_7, .ref q_9, .ref q_11, .ref q_13, .ref q_15, .int 0, .int 0, .int 0, .int 0, .int 0, .int 0, .int 0, .int 0, .int 0, .int 0, .int 0, .int 0, .int 0, .int 0, .int 0, .int 0, .int 0, .int 0, .int 0])), (q_1, .inl (c_2, 91, .inr (.inl nmT))), (q_3, .inl (c_4, 91, .inl fmT)), (q_5, .inl (c_6, 91, .inl cdT)), (q_7, .inl (c_8, 40, .inl (fun _ => (0 : Int32)))), (q_9, .inl (c_10, 1024, .inl (fun _ => (0 : Int32)))), (q_11, .inl (c_12, 8, .inl (fun _ => (0 : Int32)))), (q_13, .inl (c_14, 32, .inl (fun _ => (0 : Int32)))), (q_15, .inl (c_16, 32, .inl (fun _ => (0 : Int32))))] H := hP
  have hD : va_D A [(a0, .inr (6, [.ref q_1, .ref q_3, .ref q_5, .int 0, .int 0, .int (-1 : Int32), .int 0, .ref q_7, .ref q_9, .ref q_11, .ref q_13, .ref q_15, .int 0, .int 0, .int 0, .int 0, .int 0, .int 0, .int 0, .int 0, .int 0, .int 0, .int 0, .int 0, .int 0, .int 0, .int 0, .int 0, .int 0, .int 0, .int 0])), (q_1, .inl (c_2, 91, .inr (.inl nmT))), (q_3, .inl (c_4, 91, .inl fmT)), (q_5, .inl (c_6, 91, .inl cdT)), (q_7, .inl (c_8, 40, .inl (fun _ => (0 : Int32)))), (q_9, .inl (c_10, 1024, .inl (fun _ => (0 : Int32)))), (q_11, .inl (c_12, 8, .inl (fun _ => (0 : Int32)))), (q_13, .inl (c_14, 32, .inl (fun _ => (0 : Int32)))), (q_15, .inl (c_16, 32, .inl (fun _ => (0 : Int32))))] := hD
  refine lv_aload_n hx hb d_D_init_1758 rfl (lv_at hl 0 rfl) ?_
  refine lv_iconst (v := (-1 : Int32)) hx hb d_D_init_1759 (by decide) ?_
  refine va_put (D := D) (ci := 6) (v := .int (-1 : Int32)) (ty := .int) (C := "WindowMachineModel") (T := T_D) (N := 31) hx hb ht zi_D ty_D tyok_D nm_D hown hK hP hD hS 0 rfl rfl 18 (by decide) (ht _ zw_872) (fun _ h9 => h9) rfl (by decide +kernel) rfl rfl (Nat.le_of_ble_eq_true rfl) d_D_init_1760 (fun H locs hP hD hS => ?_)
  have hP : va_P D vwCl [(a0, .inr (6, [.ref q_1, .ref q_3, .ref q_5, .int 0, .int 0, .int (-1 : Int32), .int 0, .ref q_7, .ref q_9, .ref q_11, .ref q_13, .ref q_15, .int 0, .int 0, .int 0, .int 0, .int 0, .int 0, .int (-1 : Int32), .int 0, .int 0, .int 0, .int 0, .int 0, .int 0, .int 0, .int 0, .int 0, .int 0, .int 0, .int 0])), (q_1, .inl (c_2, 91, .inr (.inl nmT))), (q_3, .inl (c_4, 91, .inl fmT)), (q_5, .inl (c_6, 91, .inl cdT)), (q_7, .inl (c_8, 40, .inl (fun _ => (0 : Int32)))), (q_9, .inl (c_10, 1024, .inl (fun _ => (0 : Int32)))), (q_11, .inl (c_12, 8, .inl (fun _ => (0 : Int32)))), (q_13, .inl (c_14, 32, .inl (fun _ => (0 : Int32)))), (q_15, .inl (c_16, 32, .inl (fun _ => (0 : Int32))))] H := hP
  have hD : va_D A [(a0, .inr (6, [.ref q_1, .ref q_3, .ref q_5, .int 0, .int 0, .int (-1 : Int32), .int 0, .ref q_7, .ref q_9, .ref q_11, .ref q_13, .ref q_15, .int 0, .int 0, .int 0, .int 0, .int 0, .int 0, .int (-1 : Int32), .int 0, .int 0, .int 0, .int 0, .int 0, .int 0, .int 0, .int 0, .int 0, .int 0, .int 0, .int 0])), (q_1, .inl (c_2, 91, .inr (.inl nmT))), (q_3, .inl (c_4, 91, .inl fmT)), (q_5, .inl (c_6, 91, .inl cdT)), (q_7, .inl (c_8, 40, .inl (fun _ => (0 : Int32)))), (q_9, .inl (c_10, 1024, .inl (fun _ => (0 : Int32)))), (q_11, .inl (c_12, 8, .inl (fun _ => (0 : Int32)))), (q_13, .inl (c_14, 32, .inl (fun _ => (0 : Int32)))), (q_15, .inl (c_16, 32, .inl (fun _ => (0 : Int32))))] := hD
  refine lv_aload_n hx hb d_D_init_1763 rfl (lv_at hl 0 rfl) ?_
  refine lv_iconst (v := (0 : Int32)) hx hb d_D_init_1764 (by decide) ?_
  refine zc_v (w2 := fun u9 => wD (fun i9 => [a0, q_1, q_3, q_5, q_7, q_9, q_11, q_13, q_15].getD (i9 - 20) 0) (fun i9 => [c_2, c_4, c_6, c_8, c_10, c_12, c_14, c_16].getD (i9 - 21) c_2) u9) (va_runV (As := [.int (0 : Int32)]) (rest := []) ⟨hx, hb, hml, hown, ht⟩ (mt_D_reset l D  (fun i9 => [a0, q_1, q_3, q_5, q_7, q_9, q_11, q_13, q_15].getD (i9 - 20) 0) (fun i9 => [c_2, c_4, c_6, c_8, c_10, c_12, c_14, c_16].getD (i9 - 21) c_2) H.size stD9 (0 : Int32)) (cwV 1 ht (zgV zw_850 zw_852 zs_52 zw_7 zw_853) rfl rfl rfl kd_D_reset ⟨Nat.le_of_ble_eq_true rfl, Nat.le_of_ble_eq_true rfl⟩) ⟨zw_blind zw_tt, va_recv (hK.sub (tys' := [((fun i9 => [c_2, c_4, c_6, c_8, c_10, c_12, c_14, c_16].getD (i9 - 21) c_2) 21, .long), ((fun i9 => [c_2, c_4, c_6, c_8, c_10, c_12, c_14, c_16].getD (i9 - 21) c_2) 22, .int), ((fun i9 => [c_2, c_4, c_6, c_8, c_10, c_12, c_14, c_16].getD (i9 - 21) c_2) 23, .int), ((fun i9 => [c_2, c_4, c_6, c_8, c_10, c_12, c_14, c_16].getD (i9 - 21) c_2) 24, .int), ((fun i9 => [c_2, c_4, c_6, c_8, c_10, c_12, c_14, c_16].getD (i9 - 21) c_2) 25, .int), ((fun i9 => [c_2, c_4, c_6, c_8, c_10, c_12, c_14, c_16].getD (i9 - 21) c_2) 26, .int), ((fun i9 => [c_2, c_4, c_6, c_8, c_10, c_12, c_14, c_16].getD (i9 - 21) c_2) 27, .int), ((fun i9 => [c_2, c_4, c_6, c_8, c_10, c_12, c_14, c_16].getD (i9 - 21) c_2) 28, .int)]) [0, 1, 2, 3, 4, 5, 6, 7] rfl) (hP.sub (ws' := wD (fun i9 => [a0, q_1, q_3, q_5, q_7, q_9, q_11, q_13, q_15].getD (i9 - 20) 0) (fun i9 => [c_2, c_4, c_6, c_8, c_10, c_12, c_14, c_16].getD (i9 - 21) c_2) stD9) [0, 1, 2, 3, 4, 5, 6, 7, 8] rfl) (ci := 6) (q0 := 0) rfl rfl, zw_go (hP.sub (ws' := wD (fun i9 => [a0, q_1, q_3, q_5, q_7, q_9, q_11, q_13, q_15].getD (i9 - 20) 0) (fun i9 => [c_2, c_4, c_6, c_8, c_10, c_12, c_14, c_16].getD (i9 - 21) c_2) stD9) [0, 1, 2, 3, 4, 5, 6, 7, 8] rfl) (hD.sub (ws' := wD (fun i9 => [a0, q_1, q_3, q_5, q_7, q_9, q_11, q_13, q_15].getD (i9 - 20) 0) (fun i9 => [c_2, c_4, c_6, c_8, c_10, c_12, c_14, c_16].getD (i9 - 21) c_2) stD9) [0, 1, 2, 3, 4, 5, 6, 7, 8] (by decide) rfl) (hK.sub (tys' := [((fun i9 => [c_2, c_4, c_6, c_8, c_10, c_12, c_14, c_16].getD (i9 - 21) c_2) 21, .long), ((fun i9 => [c_2, c_4, c_6, c_8, c_10, c_12, c_14, c_16].getD (i9 - 21) c_2) 22, .int), ((fun i9 => [c_2, c_4, c_6, c_8, c_10, c_12, c_14, c_16].getD (i9 - 21) c_2) 23, .int), ((fun i9 => [c_2, c_4, c_6, c_8, c_10, c_12, c_14, c_16].getD (i9 - 21) c_2) 24, .int), ((fun i9 => [c_2, c_4, c_6, c_8, c_10, c_12, c_14, c_16].getD (i9 - 21) c_2) 25, .int), ((fun i9 => [c_2, c_4, c_6, c_8, c_10, c_12, c_14, c_16].getD (i9 - 21) c_2) 26, .int), ((fun i9 => [c_2, c_4, c_6, c_8, c_10, c_12, c_14, c_16].getD (i9 - 21) c_2) 27, .int), ((fun i9 => [c_2, c_4, c_6, c_8, c_10, c_12, c_14, c_16].getD (i9 - 21) c_2) 28, .int)]) [0, 1, 2, 3, 4, 5, 6, 7] rfl) (fun _ _ _ => trivial)⟩ rfl rfl hl.1 rfl (lv_room (Nat.le_of_ble_eq_true rfl)) d_D_init_1765 ⟨Nat.le_of_ble_eq_true rfl, Nat.le_of_ble_eq_true rfl⟩) hP hD hS hA [0, 1, 2, 3, 4, 5, 6, 7, 8] [] [0, 1, 2, 3, 4, 5, 6, 7, 8] rfl rfl (by decide) (by decide) (by decide) (fun _ => rfl) (fun u9 H locs hw hP hD hS => ?_)
  subst hw
  exact zn_v (u := (fun i9 => [a0, q_1, q_3, q_5, q_7, q_9, q_11, q_13, q_15].getD (i9 - 20) 0, fun i9 => [c_2, c_4, c_6, c_8, c_10, c_12, c_14, c_16].getD (i9 - 21) c_2)) hx hb hr hlocks hS hP hD hK rfl d_D_init_1768
