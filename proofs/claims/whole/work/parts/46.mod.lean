section ZE
variable {p : Program} {l : Launch} {e : Env} {R : Room} {s : State} {m : MethodId} {args : Array Value} {below : List Frame} {meth : Method} {c : Code} {H : Heap} {locs : List Loc} {cells slots : Nat} {Q : State → Prop}
variable {cc : ByteArray} {pc : Nat} {ls : Array Slot} {D : va_G} {cl : List vw_C} {A : Nat → Prop} {w wc : va_W} {av : Array Value} {st0 rest : List Value}
/-- a join whose value is written out -/
theorem zcutE {X : Type} (e0 : X) (G : X → Heap → List Loc → Array Slot → Prop) (fr : X → Array Slot → JFrame) {g : JFrame}
    (b : (∀ (v : X) (H : Heap) (locs : List Loc) (ls : Array Slot), v = e0 → G v H locs ls → W p l e R s m args below meth c H locs cells slots Q (fr v ls)) → W p l e R s m args below meth c H locs cells slots Q g)
    (k : ∀ (H : Heap) (locs : List Loc) (ls : Array Slot), G e0 H locs ls → W p l e R s m args below meth c H locs cells slots Q (fr e0 ls)) : W p l e R s m args below meth c H locs cells slots Q g :=
  b (fun v H locs ls ev hG => by subst ev; exact k H locs ls hG)
theorem zc_iE {S : Type} {wn : S → va_W} (w2 : S → va_W) {e0 : Int32}
    (hr : va_Run p l e R s m args below meth c H locs cells slots 0 0 (F0 m pc ls st0) rest (va_Qi (fun r (_ : S) => r = e0) (fun u t => zw_at D cl (va_A wc H.size) (wn u) t) (va_A wc H.size) av) (va_A wc H.size))
    (hP : va_P D cl w H) (hD : va_D A w) (hS : va_S A s.heap H locs) (hA : ∀ q, s.heap.size ≤ q → A q) (isC isR pm : List Nat) (hC : isC.map (fun i => w[i]?) = wc.map some)
    (hR : isR.map (fun i => w[i]?) = (isR.filterMap (fun i => w[i]?)).map some) (hn : va_nd isR = true) (hdis : ∀ i ∈ isR, i ∉ isC) (hpn : va_nd pm = true) (hpm : ∀ u, pm.map (fun i => (isR.filterMap (fun i => w[i]?) ++ wn u)[i]?) = (w2 u).map some)
    (kk : ∀ (u : S) (H1 : Heap) (locs1 : List Loc), va_P D cl (w2 u) H1 → va_D A (w2 u) → va_S A s.heap H1 locs1 → W p l e R s m args below meth c H1 locs1 cells slots Q (F0 m (pc + 3) ls (.int e0 :: rest))) :
    W p l e R s m args below meth c H locs cells slots Q (F0 m pc ls st0) :=
  zc_i w2 hr hP hD hS hA isC isR pm hC hR hn hdis hpn hpm (fun r u H1 locs1 hw h1 h2 h3 => by subst hw; exact kk u H1 locs1 h1 h2 h3)
theorem zc_lE {S : Type} {wn : S → va_W} (w2 : S → va_W) {e0 : Int64}
    (hr : va_Run p l e R s m args below meth c H locs cells slots 0 0 (F0 m pc ls st0) rest (va_Ql (fun r (_ : S) => r = e0) (fun u t => zw_at D cl (va_A wc H.size) (wn u) t) (va_A wc H.size) av) (va_A wc H.size))
    (hP : va_P D cl w H) (hD : va_D A w) (hS : va_S A s.heap H locs) (hA : ∀ q, s.heap.size ≤ q → A q) (isC isR pm : List Nat) (hC : isC.map (fun i => w[i]?) = wc.map some)
    (hR : isR.map (fun i => w[i]?) = (isR.filterMap (fun i => w[i]?)).map some) (hn : va_nd isR = true) (hdis : ∀ i ∈ isR, i ∉ isC) (hpn : va_nd pm = true) (hpm : ∀ u, pm.map (fun i => (isR.filterMap (fun i => w[i]?) ++ wn u)[i]?) = (w2 u).map some)
    (kk : ∀ (u : S) (H1 : Heap) (locs1 : List Loc), va_P D cl (w2 u) H1 → va_D A (w2 u) → va_S A s.heap H1 locs1 → W p l e R s m args below meth c H1 locs1 cells slots Q (F0 m (pc + 3) ls (.long e0 :: rest))) :
    W p l e R s m args below meth c H locs cells slots Q (F0 m pc ls st0) :=
  zc_l w2 hr hP hD hS hA isC isR pm hC hR hn hdis hpn hpm (fun r u H1 locs1 hw h1 h2 h3 => by subst hw; exact kk u H1 locs1 h1 h2 h3)
theorem zc_vE {S : Type} {wn : S → va_W} (w2 : S → va_W) {e0 : S}
    (hr : va_Run p l e R s m args below meth c H locs cells slots 0 0 (F0 m pc ls st0) rest (va_Qv (fun u : S => u = e0) (fun u t => zw_at D cl (va_A wc H.size) (wn u) t) (va_A wc H.size) av) (va_A wc H.size))
    (hP : va_P D cl w H) (hD : va_D A w) (hS : va_S A s.heap H locs) (hA : ∀ q, s.heap.size ≤ q → A q) (isC isR pm : List Nat) (hC : isC.map (fun i => w[i]?) = wc.map some)
    (hR : isR.map (fun i => w[i]?) = (isR.filterMap (fun i => w[i]?)).map some) (hn : va_nd isR = true) (hdis : ∀ i ∈ isR, i ∉ isC) (hpn : va_nd pm = true) (hpm : ∀ u, pm.map (fun i => (isR.filterMap (fun i => w[i]?) ++ wn u)[i]?) = (w2 u).map some)
    (kk : ∀ (H1 : Heap) (locs1 : List Loc), va_P D cl (w2 e0) H1 → va_D A (w2 e0) → va_S A s.heap H1 locs1 → W p l e R s m args below meth c H1 locs1 cells slots Q (F0 m (pc + 3) ls rest)) :
    W p l e R s m args below meth c H locs cells slots Q (F0 m pc ls st0) :=
  zc_v w2 hr hP hD hS hA isC isR pm hC hR hn hdis hpn hpm (fun u H1 locs1 hw h1 h2 h3 => by subst hw; exact kk H1 locs1 h1 h2 h3)
theorem zc_iwE {S : Type} {wn : S → va_W} (w2 : S → va_W) {e0 : Int32} {e1 : S}
    (hr : va_Run p l e R s m args below meth c H locs cells slots 0 0 (F0 m pc ls st0) rest (va_Qi (fun r (u : S) => r = e0 ∧ u = e1) (fun u t => zw_at D cl (va_A wc H.size) (wn u) t) (va_A wc H.size) av) (va_A wc H.size))
    (hP : va_P D cl w H) (hD : va_D A w) (hS : va_S A s.heap H locs) (hA : ∀ q, s.heap.size ≤ q → A q) (isC isR pm : List Nat) (hC : isC.map (fun i => w[i]?) = wc.map some)
    (hR : isR.map (fun i => w[i]?) = (isR.filterMap (fun i => w[i]?)).map some) (hn : va_nd isR = true) (hdis : ∀ i ∈ isR, i ∉ isC) (hpn : va_nd pm = true) (hpm : ∀ u, pm.map (fun i => (isR.filterMap (fun i => w[i]?) ++ wn u)[i]?) = (w2 u).map some)
    (kk : ∀ (H1 : Heap) (locs1 : List Loc), va_P D cl (w2 e1) H1 → va_D A (w2 e1) → va_S A s.heap H1 locs1 → W p l e R s m args below meth c H1 locs1 cells slots Q (F0 m (pc + 3) ls (.int e0 :: rest))) :
    W p l e R s m args below meth c H locs cells slots Q (F0 m pc ls st0) :=
  zc_i w2 hr hP hD hS hA isC isR pm hC hR hn hdis hpn hpm (fun r u H1 locs1 hw h1 h2 h3 => by obtain ⟨rfl, rfl⟩ := hw; exact kk H1 locs1 h1 h2 h3)
end ZE
theorem tr_neg {st : SD} {b t : Int32} (ht : (0 : Int32) ≤ t) (h : ¬ (0 : Int32) ≤ (m_traps st b t).1 21) : b = (0 : Int32) ∧ ¬ (0 : Int32) ≤ st.1 21 := by
  unfold m_traps at h
  dsimp only at h
  by_cases c : b = (0 : Int32)
  · rw [if_pos c] at h
    exact ⟨c, h⟩
  · rw [if_neg c] at h
    by_cases d : (0 : Int32) ≤ st.1 21
    · rw [if_pos d] at h
      exact absurd d h
    · rw [if_neg d] at h
      exact absurd ht h
theorem dv_ne {st u : SD} {b x : Int32} (eu : u = m_traps st x (42 : Int32)) (ex : x = (if b = (0 : Int32) then (1 : Int32) else (0 : Int32))) (c : u.1 21 < (0 : Int32)) : ¬ b.toInt64 = 0 := by
  intro hz
  rw [eu] at c
  have q := (tr_neg (by decide) (Int32.not_le.mpr c)).1
  rw [ex, if_pos (i64z hz)] at q
  exact absurd q (by decide)
theorem d_D_returns_0 : decode c_D_returns 0 = .ok (.aload_n 0, 1) := by decide +kernel
theorem d_D_returns_1 : decode c_D_returns 1 = .ok (.getfield 274, 3) := by decide +kernel
theorem d_D_returns_4 : decode c_D_returns 4 = .ok (.ifCond .eq 20, 3) := by decide +kernel
theorem d_D_returns_7 : decode c_D_returns 7 = .ok (.aload_n 0, 1) := by decide +kernel
theorem d_D_returns_8 : decode c_D_returns 8 = .ok (.aload_n 0, 1) := by decide +kernel
theorem d_D_returns_9 : decode c_D_returns 9 = .ok (.getfield 268, 3) := by decide +kernel
theorem d_D_returns_12 : decode c_D_returns 12 = .ok (.ifCond .eq 7, 3) := by decide +kernel
theorem d_D_returns_15 : decode c_D_returns 15 = .ok (.iconst 2, 1) := by decide +kernel
theorem d_D_returns_16 : decode c_D_returns 16 = .ok (.goto 4, 3) := by decide +kernel
theorem d_D_returns_19 : decode c_D_returns 19 = .ok (.iconst 3, 1) := by decide +kernel
theorem d_D_returns_20 : decode c_D_returns 20 = .ok (.putfield 312, 3) := by decide +kernel
theorem d_D_returns_23 : decode c_D_returns 23 = .ok (.return_, 1) := by decide +kernel
theorem d_D_returns_24 : decode c_D_returns 24 = .ok (.aload_n 0, 1) := by decide +kernel
theorem d_D_returns_25 : decode c_D_returns 25 = .ok (.getfield 237, 3) := by decide +kernel
theorem d_D_returns_28 : decode c_D_returns 28 = .ok (.iconst 1, 1) := by decide +kernel
theorem d_D_returns_29 : decode c_D_returns 29 = .ok (.iadd, 1) := by decide +kernel
theorem d_D_returns_30 : decode c_D_returns 30 = .ok (.iconst 3, 1) := by decide +kernel
theorem d_D_returns_31 : decode c_D_returns 31 = .ok (.iand, 1) := by decide +kernel
theorem d_D_returns_32 : decode c_D_returns 32 = .ok (.istore_n 2, 1) := by decide +kernel
theorem d_D_returns_33 : decode c_D_returns 33 = .ok (.aload_n 0, 1) := by decide +kernel
theorem d_D_returns_34 : decode c_D_returns 34 = .ok (.getfield 268, 3) := by decide +kernel
theorem d_D_returns_37 : decode c_D_returns 37 = .ok (.ifCond .ne 7, 3) := by decide +kernel
theorem d_D_returns_40 : decode c_D_returns 40 = .ok (.iconst 3, 1) := by decide +kernel
theorem d_D_returns_41 : decode c_D_returns 41 = .ok (.goto 32, 3) := by decide +kernel
theorem d_D_returns_44 : decode c_D_returns 44 = .ok (.aload_n 0, 1) := by decide +kernel
theorem d_D_returns_45 : decode c_D_returns 45 = .ok (.getfield 243, 3) := by decide +kernel
theorem d_D_returns_48 : decode c_D_returns 48 = .ok (.iload_n 2, 1) := by decide +kernel
theorem d_D_returns_49 : decode c_D_returns 49 = .ok (.ishr, 1) := by decide +kernel
theorem d_D_returns_50 : decode c_D_returns 50 = .ok (.iconst 1, 1) := by decide +kernel
theorem d_D_returns_51 : decode c_D_returns 51 = .ok (.iand, 1) := by decide +kernel
theorem d_D_returns_52 : decode c_D_returns 52 = .ok (.iconst 1, 1) := by decide +kernel
theorem d_D_returns_53 : decode c_D_returns 53 = .ok (.if_icmp .ne 8, 3) := by decide +kernel
theorem d_D_returns_56 : decode c_D_returns 56 = .ok (.bipush 6, 2) := by decide +kernel
theorem d_D_returns_58 : decode c_D_returns 58 = .ok (.goto 15, 3) := by decide +kernel
theorem d_D_returns_61 : decode c_D_returns 61 = .ok (.iload_n 1, 1) := by decide +kernel
theorem d_D_returns_62 : decode c_D_returns 62 = .ok (.iconst 3, 1) := by decide +kernel
theorem d_D_returns_63 : decode c_D_returns 63 = .ok (.iand, 1) := by decide +kernel
theorem d_D_returns_64 : decode c_D_returns 64 = .ok (.ifCond .eq 8, 3) := by decide +kernel
theorem d_D_returns_67 : decode c_D_returns 67 = .ok (.bipush 7, 2) := by decide +kernel
theorem d_D_returns_69 : decode c_D_returns 69 = .ok (.goto 4, 3) := by decide +kernel
theorem d_D_returns_72 : decode c_D_returns 72 = .ok (.iconst (-1), 1) := by decide +kernel
theorem d_D_returns_73 : decode c_D_returns 73 = .ok (.istore_n 3, 1) := by decide +kernel
theorem d_D_returns_74 : decode c_D_returns 74 = .ok (.iload_n 3, 1) := by decide +kernel
theorem d_D_returns_75 : decode c_D_returns 75 = .ok (.ifCond .lt 9, 3) := by decide +kernel
theorem d_D_returns_78 : decode c_D_returns 78 = .ok (.aload_n 0, 1) := by decide +kernel
theorem d_D_returns_79 : decode c_D_returns 79 = .ok (.iload_n 3, 1) := by decide +kernel
theorem d_D_returns_80 : decode c_D_returns 80 = .ok (.putfield 312, 3) := by decide +kernel
theorem d_D_returns_83 : decode c_D_returns 83 = .ok (.return_, 1) := by decide +kernel
theorem d_D_returns_84 : decode c_D_returns 84 = .ok (.aload_n 0, 1) := by decide +kernel
theorem d_D_returns_85 : decode c_D_returns 85 = .ok (.iload_n 1, 1) := by decide +kernel
theorem d_D_returns_86 : decode c_D_returns 86 = .ok (.putfield 320, 3) := by decide +kernel
theorem d_D_returns_89 : decode c_D_returns 89 = .ok (.aload_n 0, 1) := by decide +kernel
theorem d_D_returns_90 : decode c_D_returns 90 = .ok (.iload_n 2, 1) := by decide +kernel
theorem d_D_returns_91 : decode c_D_returns 91 = .ok (.putfield 237, 3) := by decide +kernel
theorem d_D_returns_94 : decode c_D_returns 94 = .ok (.aload_n 0, 1) := by decide +kernel
theorem d_D_returns_95 : decode c_D_returns 95 = .ok (.aload_n 0, 1) := by decide +kernel
theorem d_D_returns_96 : decode c_D_returns 96 = .ok (.getfield 271, 3) := by decide +kernel
theorem d_D_returns_99 : decode c_D_returns 99 = .ok (.putfield 268, 3) := by decide +kernel
theorem d_D_returns_102 : decode c_D_returns 102 = .ok (.aload_n 0, 1) := by decide +kernel
theorem d_D_returns_103 : decode c_D_returns 103 = .ok (.iconst 1, 1) := by decide +kernel
theorem d_D_returns_104 : decode c_D_returns 104 = .ok (.putfield 274, 3) := by decide +kernel
theorem d_D_returns_107 : decode c_D_returns 107 = .ok (.return_, 1) := by decide +kernel
theorem kd_D_returns : (y_D_returns).cls = "WindowMachineModel" ∧ (y_D_returns).cls ≠ "java/lang/invoke/MethodHandle" ∧ (y_D_returns).cls ≠ "java/lang/invoke/VarHandle" ∧ (parseMethodDescriptor (y_D_returns).desc).map (fun d => d.parameters.length) = some 1 := by decide +kernel
def m_returns (st : SD) (p0 : Int32) : SD := (if (st.1 19) = (0 : Int32) then (let x_2 := ((st.1 6) + (1 : Int32)) &&& (3 : Int32); (let x_3 := (if (st.1 17) = (0 : Int32) then (3 : Int32) else (if (((st.1 8) >>> (x_2 &&& 31)) &&& (1 : Int32)) = (1 : Int32) then (6 : Int32) else (if (p0 &&& (3 : Int32)) = (0 : Int32) then (-1 : Int32) else (7 : Int32)))); (if x_3 < (0 : Int32) then (upd (upd (upd (upd st.1 22 p0) 6 x_2) 17 (st.1 18)) 19 (1 : Int32), st.2.1, st.2.2.1, st.2.2.2.1, st.2.2.2.2.1, st.2.2.2.2.2) else (upd st.1 21 x_3, st.2.1, st.2.2.1, st.2.2.2.1, st.2.2.2.2.1, st.2.2.2.2.2)))) else (let x_9 := (if (st.1 17) = (0 : Int32) then (3 : Int32) else (2 : Int32)); (upd st.1 21 x_9, st.2.1, st.2.2.1, st.2.2.2.1, st.2.2.2.2.1, st.2.2.2.2.2)))
set_option maxHeartbeats 4000000 in
set_option maxRecDepth 100000 in
theorem mt_D_returns (l : Launch) (D : va_G) (h : Nat → Nat) (c : Nat → ClassId) (sz : Nat) (st : SD) (p0 : Int32) (hV : okV st) : Met l y_D_returns w_D_returns ({ frames := 0, cells := 0, slots := 0, locals := 0 }) (va_Pc [.ref (h 20), .int p0] (zw_pre D vwCl [(c 21, .long), (c 22, .int), (c 23, .int), (c 24, .int), (c 25, .int), (c 26, .int), (c 27, .int), (c 28, .int)] sz (wD h c st) (fun _ => True))) (va_Qv (fun (u : SD) => u = m_returns st p0) (fun u t => zw_at D vwCl (va_A (wD h c st) sz) ((fun (u : SD) => wD h c u) u) t) (va_A (wD h c st) sz)) 0 0 (va_A (wD h c st) sz) := by
  refine zm (Qf := fun A => va_Qv (fun (u : SD) => u = m_returns st p0) (fun u t => zw_at D vwCl A ((fun (u : SD) => wD h c u) u) t) A) (Zf := fun _ _ => True) (cc := c_D_returns) (nL := 4) (ret := none) (by decide) rfl (Nat.le_of_ble_eq_true rfl) ?_
  intro p e s m below meth c9 A H locs ls hx hb hml hown hts hr hlocks hA hK hP hD hS hZ hl
  have hl : lv_has ls 4 [(0, .ref (h 20)), (1, .int p0)] := hl
  have ht : ∀ w9 ∈ zT, w9.before _ s = true := fun w9 h9 => hts w9 (List.mem_cons_of_mem _ h9)
  refine lv_aload_n hx hb d_D_returns_0 rfl (lv_at hl 0 rfl) ?_
  refine va_get (D := D) (ci := 6) (v := .int (st.1 19)) (C := "WindowMachineModel") (T := T_D) (N := 31) hx hb ht zi_D hown hK hP 0 rfl rfl 27 (by decide) (ht _ zw_881) (fun _ h9 => h9) rfl d_D_returns_1 ?_
  refine lv_if_eq (tgt := 24) hx hb d_D_returns_4 (by decide) (fun c_1 => ?_) (fun c_1 => ?_)
  · refine lv_aload_n hx hb d_D_returns_24 rfl (lv_at hl 0 rfl) ?_
    refine va_get (D := D) (ci := 6) (v := .int (st.1 6)) (C := "WindowMachineModel") (T := T_D) (N := 31) hx hb ht zi_D hown hK hP 0 rfl rfl 14 (by decide) (ht _ zw_868) (fun _ h9 => h9) rfl d_D_returns_25 ?_
    refine lv_iconst (v := (1 : Int32)) hx hb d_D_returns_28 (by decide) ?_
    refine lv_iadd hx hb d_D_returns_29 ?_
    refine lv_iconst (v := (3 : Int32)) hx hb d_D_returns_30 (by decide) ?_
    refine lv_iand hx hb d_D_returns_31 ?_
    refine lv_topi (fun x_2 ex_2 => ?_)
    refine lv_istore_n (lv' := [(2, .int x_2), (0, .ref (h 20)), (1, .int p0)]) hx hb d_D_returns_32 rfl hl (by decide) rfl (fun ls hl => ?_)
    refine lv_aload_n hx hb d_D_returns_33 rfl (lv_at hl 1 rfl) ?_
    refine va_get (D := D) (ci := 6) (v := .int (st.1 17)) (C := "WindowMachineModel") (T := T_D) (N := 31) hx hb ht zi_D hown hK hP 0 rfl rfl 25 (by decide) (ht _ zw_879) (fun _ h9 => h9) rfl d_D_returns_34 ?_
    refine zcut (X := Int32) (G := fun v9 H locs ls => v9 = (if (st.1 17) = (0 : Int32) then (3 : Int32) else (if (((st.1 8) >>> (x_2 &&& 31)) &&& (1 : Int32)) = (1 : Int32) then (6 : Int32) else (if (p0 &&& (3 : Int32)) = (0 : Int32) then (-1 : Int32) else (7 : Int32)))) ∧ va_P D vwCl (wD h c st) H ∧ va_D A (wD h c st) ∧ va_S A s.heap H locs ∧ lv_has ls 4 [(0, .ref (h 20)), (1, .int p0), (2, .int x_2)]) (fr := fun v9 ls => F0 m 73 ls [.int v9]) (fun J_4 => ?_) (fun v9 H locs ls hG => ?_)
    · refine lv_if_ne (tgt := 44) hx hb d_D_returns_37 (by decide) (fun c_5 => ?_) (fun c_5 => ?_)
      · refine lv_aload_n hx hb d_D_returns_44 rfl (lv_at hl 1 rfl) ?_
        refine va_get (D := D) (ci := 6) (v := .int (st.1 8)) (C := "WindowMachineModel") (T := T_D) (N := 31) hx hb ht zi_D hown hK hP 0 rfl rfl 16 (by decide) (ht _ zw_870) (fun _ h9 => h9) rfl d_D_returns_45 ?_
        refine lv_iload_n hx hb d_D_returns_48 rfl (lv_at hl 0 rfl) ?_
        refine lv_ishr hx hb d_D_returns_49 ?_
        refine lv_iconst (v := (1 : Int32)) hx hb d_D_returns_50 (by decide) ?_
        refine lv_iand hx hb d_D_returns_51 ?_
        refine lv_iconst (v := (1 : Int32)) hx hb d_D_returns_52 (by decide) ?_
        refine lv_icmp_ne (tgt := 61) hx hb d_D_returns_53 (by decide) (fun c_6 => ?_) (fun c_6 => ?_)
        · refine lv_iload_n hx hb d_D_returns_61 rfl (lv_at hl 2 rfl) ?_
          refine lv_iconst (v := (3 : Int32)) hx hb d_D_returns_62 (by decide) ?_
          refine lv_iand hx hb d_D_returns_63 ?_
          refine lv_if_eq (tgt := 72) hx hb d_D_returns_64 (by decide) (fun c_7 => ?_) (fun c_7 => ?_)
          · refine lv_iconst (v := (-1 : Int32)) hx hb d_D_returns_72 (by decide) ?_
            exact J_4 (-1 : Int32) _ _ _ ⟨by simp only [if_neg c_5, if_neg c_6, if_pos c_7], hP, hD, hS, (lv_sub hl [1, 2, 0] rfl)⟩
          refine lv_bipush (v := (7 : Int32)) hx hb d_D_returns_67 (by decide) ?_
          refine lv_goto (tgt := 73) hx hb d_D_returns_69 (by decide) ?_
          exact J_4 (7 : Int32) _ _ _ ⟨by simp only [if_neg c_5, if_neg c_6, if_neg c_7], hP, hD, hS, (lv_sub hl [1, 2, 0] rfl)⟩
        refine lv_bipush (v := (6 : Int32)) hx hb d_D_returns_56 (by decide) ?_
        refine lv_goto (tgt := 73) hx hb d_D_returns_58 (by decide) ?_
        exact J_4 (6 : Int32) _ _ _ ⟨by simp only [if_neg c_5, if_pos c_6], hP, hD, hS, (lv_sub hl [1, 2, 0] rfl)⟩
      refine lv_iconst (v := (3 : Int32)) hx hb d_D_returns_40 (by decide) ?_
      refine lv_goto (tgt := 73) hx hb d_D_returns_41 (by decide) ?_
      exact J_4 (3 : Int32) _ _ _ ⟨by simp only [if_pos c_5], hP, hD, hS, (lv_sub hl [1, 2, 0] rfl)⟩
    obtain ⟨x_3, rfl⟩ : ∃ z, z = v9 := ⟨_, rfl⟩
    obtain ⟨ex_3, hP, hD, hS, hl⟩ := hG
    refine lv_istore_n (lv' := [(3, .int x_3), (0, .ref (h 20)), (1, .int p0), (2, .int x_2)]) hx hb d_D_returns_73 rfl hl (by decide) rfl (fun ls hl => ?_)
    refine lv_iload_n hx hb d_D_returns_74 rfl (lv_at hl 0 rfl) ?_
    refine lv_if_lt (tgt := 84) hx hb d_D_returns_75 (by decide) (fun c_8 => ?_) (fun c_8 => ?_)
    · refine lv_aload_n hx hb d_D_returns_84 rfl (lv_at hl 1 rfl) ?_
      refine lv_iload_n hx hb d_D_returns_85 rfl (lv_at hl 2 rfl) ?_
      refine va_put (D := D) (ci := 6) (v := .int p0) (ty := .int) (C := "WindowMachineModel") (T := T_D) (N := 31) hx hb ht zi_D ty_D tyok_D nm_D hown hK hP hD hS 0 rfl rfl 30 (by decide) (ht _ zw_884) (fun _ h9 => h9) rfl (by decide +kernel) rfl rfl (Nat.le_of_ble_eq_true rfl) d_D_returns_86 (fun H locs hP hD hS => ?_)
      have hP : va_P D vwCl (wD h c (upd st.1 22 p0, st.2.1, st.2.2.1, st.2.2.2.1, st.2.2.2.2.1, st.2.2.2.2.2)) H := hP
      have hD : va_D A (wD h c (upd st.1 22 p0, st.2.1, st.2.2.1, st.2.2.2.1, st.2.2.2.2.1, st.2.2.2.2.2)) := hD
      refine lv_aload_n hx hb d_D_returns_89 rfl (lv_at hl 1 rfl) ?_
      refine lv_iload_n hx hb d_D_returns_90 rfl (lv_at hl 3 rfl) ?_
      refine va_put (D := D) (ci := 6) (v := .int x_2) (ty := .int) (C := "WindowMachineModel") (T := T_D) (N := 31) hx hb ht zi_D ty_D tyok_D nm_D hown hK hP hD hS 0 rfl rfl 14 (by decide) (ht _ zw_868) (fun _ h9 => h9) rfl (by decide +kernel) rfl rfl (Nat.le_of_ble_eq_true rfl) d_D_returns_91 (fun H locs hP hD hS => ?_)
      have hP : va_P D vwCl (wD h c (upd (upd st.1 22 p0) 6 x_2, st.2.1, st.2.2.1, st.2.2.2.1, st.2.2.2.2.1, st.2.2.2.2.2)) H := hP
      have hD : va_D A (wD h c (upd (upd st.1 22 p0) 6 x_2, st.2.1, st.2.2.1, st.2.2.2.1, st.2.2.2.2.1, st.2.2.2.2.2)) := hD
      refine lv_aload_n hx hb d_D_returns_94 rfl (lv_at hl 1 rfl) ?_
      refine lv_aload_n hx hb d_D_returns_95 rfl (lv_at hl 1 rfl) ?_
      refine va_get (D := D) (ci := 6) (v := .int (st.1 18)) (C := "WindowMachineModel") (T := T_D) (N := 31) hx hb ht zi_D hown hK hP 0 rfl rfl 26 (by decide) (ht _ zw_880) (fun _ h9 => h9) rfl d_D_returns_96 ?_
      refine va_put (D := D) (ci := 6) (v := .int (st.1 18)) (ty := .boolean) (C := "WindowMachineModel") (T := T_D) (N := 31) hx hb ht zi_D ty_D tyok_D nm_D hown hK hP hD hS 0 rfl rfl 25 (by decide) (ht _ zw_879) (fun _ h9 => h9) rfl (by decide +kernel) (hV.2.2).n (hV.2.2).f (Nat.le_of_ble_eq_true rfl) d_D_returns_99 (fun H locs hP hD hS => ?_)
      have hP : va_P D vwCl (wD h c (upd (upd (upd st.1 22 p0) 6 x_2) 17 (st.1 18), st.2.1, st.2.2.1, st.2.2.2.1, st.2.2.2.2.1, st.2.2.2.2.2)) H := hP
      have hD : va_D A (wD h c (upd (upd (upd st.1 22 p0) 6 x_2) 17 (st.1 18), st.2.1, st.2.2.1, st.2.2.2.1, st.2.2.2.2.1, st.2.2.2.2.2)) := hD
      refine lv_aload_n hx hb d_D_returns_102 rfl (lv_at hl 1 rfl) ?_
      refine lv_iconst (v := (1 : Int32)) hx hb d_D_returns_103 (by decide) ?_
      refine va_put (D := D) (ci := 6) (v := .int (1 : Int32)) (ty := .boolean) (C := "WindowMachineModel") (T := T_D) (N := 31) hx hb ht zi_D ty_D tyok_D nm_D hown hK hP hD hS 0 rfl rfl 27 (by decide) (ht _ zw_881) (fun _ h9 => h9) rfl (by decide +kernel) rfl rfl (Nat.le_of_ble_eq_true rfl) d_D_returns_104 (fun H locs hP hD hS => ?_)
      have hP : va_P D vwCl (wD h c (upd (upd (upd (upd st.1 22 p0) 6 x_2) 17 (st.1 18)) 19 (1 : Int32), st.2.1, st.2.2.1, st.2.2.2.1, st.2.2.2.2.1, st.2.2.2.2.2)) H := hP
      have hD : va_D A (wD h c (upd (upd (upd (upd st.1 22 p0) 6 x_2) 17 (st.1 18)) 19 (1 : Int32), st.2.1, st.2.2.1, st.2.2.2.1, st.2.2.2.2.1, st.2.2.2.2.2)) := hD
      exact zl_v (u := (upd (upd (upd (upd st.1 22 p0) 6 x_2) 17 (st.1 18)) 19 (1 : Int32), st.2.1, st.2.2.1, st.2.2.2.1, st.2.2.2.2.1, st.2.2.2.2.2)) hx hb hr hlocks hS hP hD (by simp only [m_returns, ← ex_2, ← ex_3, if_pos c_1, if_pos c_8]) d_D_returns_107
    refine lv_aload_n hx hb d_D_returns_78 rfl (lv_at hl 1 rfl) ?_
    refine lv_iload_n hx hb d_D_returns_79 rfl (lv_at hl 0 rfl) ?_
    refine va_put (D := D) (ci := 6) (v := .int x_3) (ty := .int) (C := "WindowMachineModel") (T := T_D) (N := 31) hx hb ht zi_D ty_D tyok_D nm_D hown hK hP hD hS 0 rfl rfl 29 (by decide) (ht _ zw_883) (fun _ h9 => h9) rfl (by decide +kernel) rfl rfl (Nat.le_of_ble_eq_true rfl) d_D_returns_80 (fun H locs hP hD hS => ?_)
    have hP : va_P D vwCl (wD h c (upd st.1 21 x_3, st.2.1, st.2.2.1, st.2.2.2.1, st.2.2.2.2.1, st.2.2.2.2.2)) H := hP
    have hD : va_D A (wD h c (upd st.1 21 x_3, st.2.1, st.2.2.1, st.2.2.2.1, st.2.2.2.2.1, st.2.2.2.2.2)) := hD
    exact zl_v (u := (upd st.1 21 x_3, st.2.1, st.2.2.1, st.2.2.2.1, st.2.2.2.2.1, st.2.2.2.2.2)) hx hb hr hlocks hS hP hD (by simp only [m_returns, ← ex_2, ← ex_3, if_pos c_1, if_neg c_8]) d_D_returns_83
  refine lv_aload_n hx hb d_D_returns_7 rfl (lv_at hl 0 rfl) ?_
  refine lv_aload_n hx hb d_D_returns_8 rfl (lv_at hl 0 rfl) ?_
  refine va_get (D := D) (ci := 6) (v := .int (st.1 17)) (C := "WindowMachineModel") (T := T_D) (N := 31) hx hb ht zi_D hown hK hP 0 rfl rfl 25 (by decide) (ht _ zw_879) (fun _ h9 => h9) rfl d_D_returns_9 ?_
  refine zcut (X := Int32) (G := fun v9 H locs ls => v9 = (if (st.1 17) = (0 : Int32) then (3 : Int32) else (2 : Int32)) ∧ va_P D vwCl (wD h c st) H ∧ va_D A (wD h c st) ∧ va_S A s.heap H locs ∧ lv_has ls 4 [(0, .ref (h 20)), (1, .int p0)]) (fr := fun v9 ls => F0 m 20 ls [.int v9, .ref (h 20)]) (fun J_10 => ?_) (fun v9 H locs ls hG => ?_)
  · refine lv_if_eq (tgt := 19) hx hb d_D_returns_12 (by decide) (fun c_11 => ?_) (fun c_11 => ?_)
    · refine lv_iconst (v := (3 : Int32)) hx hb d_D_returns_19 (by decide) ?_
      exact J_10 (3 : Int32) _ _ _ ⟨by simp only [if_pos c_11], hP, hD, hS, hl⟩
    refine lv_iconst (v := (2 : Int32)) hx hb d_D_returns_15 (by decide) ?_
    refine lv_goto (tgt := 20) hx hb d_D_returns_16 (by decide) ?_
    exact J_10 (2 : Int32) _ _ _ ⟨by simp only [if_neg c_11], hP, hD, hS, hl⟩
  obtain ⟨x_9, rfl⟩ : ∃ z, z = v9 := ⟨_, rfl⟩
  obtain ⟨ex_9, hP, hD, hS, hl⟩ := hG
  refine va_put (D := D) (ci := 6) (v := .int x_9) (ty := .int) (C := "WindowMachineModel") (T := T_D) (N := 31) hx hb ht zi_D ty_D tyok_D nm_D hown hK hP hD hS 0 rfl rfl 29 (by decide) (ht _ zw_883) (fun _ h9 => h9) rfl (by decide +kernel) rfl rfl (Nat.le_of_ble_eq_true rfl) d_D_returns_20 (fun H locs hP hD hS => ?_)
  have hP : va_P D vwCl (wD h c (upd st.1 21 x_9, st.2.1, st.2.2.1, st.2.2.2.1, st.2.2.2.2.1, st.2.2.2.2.2)) H := hP
  have hD : va_D A (wD h c (upd st.1 21 x_9, st.2.1, st.2.2.1, st.2.2.2.1, st.2.2.2.2.1, st.2.2.2.2.2)) := hD
  exact zl_v (u := (upd st.1 21 x_9, st.2.1, st.2.2.1, st.2.2.2.1, st.2.2.2.2.1, st.2.2.2.2.2)) hx hb hr hlocks hS hP hD (by simp only [m_returns, ← ex_9, if_neg c_1]) d_D_returns_23
