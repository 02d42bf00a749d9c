/-- entry of a constructor -/
theorem zmI {l : Launch} {y : MethodName} {ws ws' : List Cond} {rm : Room} {cc : ByteArray} {nL : Nat} {ret : Option FieldType} {D : va_G} {cl : List vw_C} {tys : List (ClassId × FieldType)} {sz : Nat} {w : va_W} {av : List Value} {mc ms : Nat}
    (Qf : (Nat → Prop) → Array Value → State → Outcome → State → Prop) (Zf : (Nat → Prop) → State → Prop)
    (hy : plainName y.cls = true) (hn : y.name = "<init>") (hw : ws = Cond.code y cc nL ret :: ws') (hlen : (lg_sl av).length ≤ nL)
    (body : ∀ (p : Program) (e : Env) (s : State) (m : MethodId) (below : List Frame) (meth : Method) (c : Code) (A : Nat → Prop) (H : Heap) (locs : List Loc) (ls : Array Slot),
      p.tables.exec = Jvm.exec → c.code = cc → c.maxLocals = nL → s.vm.findClass y.cls = some m.cls → (∀ w' ∈ ws, w'.before av.toArray s = true) → meth.sig.returnType = ret → meth.locks = false → meth.name = "<init>" →
      (∀ q : Nat, s.heap.size ≤ q → A q) → va_K D cl tys s → va_P D cl w H → va_D A w → va_S A s.heap H locs → Zf A s → lv_has ls nL (lv_args 0 av) →
      W p l e rm s m av.toArray below meth c H locs 0 0 (MQ below (Qf A) av.toArray s mc ms A) (F0 m 0 ls [])) :
    Met l y ws rm (va_Pc av (zw_pre D cl tys sz w (Zf (va_A w sz)))) (Qf (va_A w sz)) mc ms (va_A w sz) := by
  refine Met.ofW (cc := cc) (maxL := nL) (ret := ret) hy hw ?_
  intro p e s m args below meth c s₁ B hml hv
  obtain ⟨rfl, hsz, hP, hK, hD0, hZ⟩ := hv
  have hts := atoms_spec (ws := ws) B.pre
  have hl := lv_entry av (n := nL) hlen
  rw [lg_entry_eq]
  subst hsz
  exact body p e s m below meth c (va_A w s.heap.size) s.heap [] _ B.exec B.bytes hml (findClass_of_methodNamed B.named) hts B.returns B.notSynchronized ((name_of_methodNamed B.named B.method).1.trans hn) (fun q h => Or.inr h) hK hP (hD0.self (sz := s.heap.size)) va_S.rf hZ hl
section ZN
variable {p : Program} {l : Launch} {e : Env} {R : Room} {s : State} {m : MethodId} {args : Array Value} {below : List Frame} {meth : Method} {c : Code} {H : Heap} {locs : List Loc} {cells slots : Nat} {Q : State → Prop}
variable {cc : ByteArray} {pc : Nat} {ls : Array Slot} {D : va_G} {cl : List vw_C} {A : Nat → Prop}
variable {w wc : va_W} {av : Array Value} {st0 rest : List Value} {tys : List (ClassId × FieldType)} {mc ms : Nat}
/-- the world behind a call that makes -/
def zn_at (D : va_G) (cl : List vw_C) (A : Nat → Prop) (w : va_W) (tys : List (ClassId × FieldType)) (t : State) : Prop := (va_P D cl w t.heap ∧ va_D A w) ∧ va_K D cl tys t
theorem zcN {S : Type} {post : S → Prop} {wn : S → va_W} {tn : S → List (ClassId × FieldType)}
    (hr : va_Run p l e R s m args below meth c H locs cells slots mc ms (F0 m pc ls st0) rest (va_Qv post (fun u t => zn_at D cl (va_A wc H.size) (wn u) (tn u) t) (va_A wc H.size) av) (va_A wc H.size))
    (hP : va_P D cl w H) (hD : va_D A w) (hK : va_K D cl tys s) (hS : va_S A s.heap H locs) (hA : ∀ q, s.heap.size ≤ q → A q) (isC isR : List Nat) (hC : isC.map (fun i => w[i]?) = wc.map some)
    (hR : isR.map (fun i => w[i]?) = (isR.filterMap (fun i => w[i]?)).map some) (hn : va_nd isR = true) (hdis : ∀ i ∈ isR, i ∉ isC)
    (kk : ∀ (u : S) (H1 : Heap) (locs1 : List Loc), post u → va_P D cl (isR.filterMap (fun i => w[i]?) ++ wn u) H1 → va_D A (isR.filterMap (fun i => w[i]?) ++ wn u) → va_K D cl (tys ++ tn u) s → va_S A s.heap H1 locs1 → W p l e R s m args below meth c H1 locs1 (cells + mc) (slots + ms) Q (F0 m (pc + 3) ls rest)) :
    W p l e R s m args below meth c H locs cells slots Q (F0 m pc ls st0) := by
  have hF := va_free (wc := wc) hD hS hA isC hC
  refine va_callv hr hS (fun q _ h => hF q h) hF (fun u t H1 locs1 ht hvm hw hB _ hk1 hS1 => ?_)
  obtain ⟨⟨hP1, hD1⟩, hK1⟩ := hB
  rw [ht] at hP1
  obtain ⟨hP2, hD2⟩ := va_join (w1 := wn u) hP hD isC isR hC hR hn hdis hk1 hF hP1 hD1
  exact kk u H1 locs1 hw hP2 hD2 (hK.app (va_K.moved hvm.symm hK1)) hS1
/-- the end of a constructor -/
theorem zn_v {S : Type} {post : S → Prop} {wn : S → va_W} {tn : S → List (ClassId × FieldType)} {u : S} (hx : p.tables.exec = Jvm.exec) (hb : c.code = cc) (hr : meth.sig.returnType = none) (hlocks : meth.locks = false) (hS : va_S A s.heap H locs) (hP : va_P D cl (wn u) H) (hD : va_D A (wn u)) (hK : va_K D cl (tn u) s) (hp : post u) (hdg : decode cc pc = .ok (.return_, 1)) :
    W p l e R s m args below meth c H locs cells slots (MQ below (va_Qv post (fun u t => zn_at D cl A (wn u) (tn u) t) A) args s cells slots A) (F0 m pc ls []) :=
  W.vret hx hb hr (fun t ht hW => ⟨⟨u, rfl, hp, ⟨by rw [ht]; exact hP, hD⟩, va_K.moved hW.alike hK⟩, hS.F ht⟩) hS.2.2 hdg hlocks
end ZN
/-- an array filled up to k -/
def tbI (L : List Int32) (k : Nat) : Nat → Int32 := fun j => if j < k then L.getD j 0 else 0
def tbL (L : List Int64) (k : Nat) : Nat → Int64 := fun j => if j < k then L.getD j 0 else 0
theorem tbI_s {L : List Int32} {k : Nat} {i v : Int32} (hi : i.toNatClampNeg = k) (hv : L.getD k 0 = v) : upd (tbI L k) i.toNatClampNeg v = tbI L (k + 1) := by
  rw [hi]
  funext j
  unfold upd tbI
  by_cases e : j = k
  · rw [if_pos e, e, if_pos (by omega), hv]
  · rw [if_neg e]
    by_cases c : j < k
    · rw [if_pos c, if_pos (by omega)]
    · rw [if_neg c, if_neg (by omega)]
theorem tbL_s {L : List Int64} {k : Nat} {i : Int32} {v : Int64} (hi : i.toNatClampNeg = k) (hv : L.getD k 0 = v) : vp_updL (tbL L k) i.toNatClampNeg v = tbL L (k + 1) := by
  rw [hi]
  funext j
  unfold vp_updL tbL
  by_cases e : j = k
  · rw [if_pos e, e, if_pos (by omega), hv]
  · rw [if_neg e]
    by_cases c : j < k
    · rw [if_pos c, if_pos (by omega)]
    · rw [if_neg c, if_neg (by omega)]
theorem tbI_0 (L : List Int32) : (fun _ => (0 : Int32)) = tbI L 0 := by funext j; unfold tbI; rw [if_neg (by omega)]
theorem tbL_0 (L : List Int64) : (fun _ => (0 : Int64)) = tbL L 0 := by funext j; unfold tbL; rw [if_neg (by omega)]
theorem tbI_all {L : List Int32} {k : Nat} (h : L.length = k) : tbI L k = fun j => L.getD j 0 := by
  funext j
  unfold tbI
  by_cases c : j < k
  · rw [if_pos c]
  · rw [if_neg c, List.getD_eq_getElem?_getD, List.getElem?_eq_none (by omega)]; rfl
theorem tbL_all {L : List Int64} {k : Nat} (h : L.length = k) : tbL L k = fun j => L.getD j 0 := by
  funext j
  unfold tbL
  by_cases c : j < k
  · rw [if_pos c]
  · rw [if_neg c, List.getD_eq_getElem?_getD, List.getElem?_eq_none (by omega)]; rfl
/-- the states at the start -/
def stX0 : SX := (f_reset (fun _ => (0 : Int32), fun _ => (0 : Int32), fun _ => (0 : Int32), fun _ => (0 : Int32)) (0 : Int32), (upd (fun _ => (0 : Int32)) 2 (-1 : Int32), fun _ => (0 : Int32)))
def stD9 : SD := (upd (upd (fun _ => (0 : Int32)) 2 (-1 : Int32)) 10 (-1 : Int32), fun _ => (0 : Int32), fun _ => (0 : Int32), fun _ => (0 : Int32), fun _ => (0 : Int32), fun _ => (0 : Int32))
theorem d_M_init_0 : decode c_M_init 0 = .ok (.aload_n 0, 1) := by decide +kernel
theorem d_M_init_1 : decode c_M_init 1 = .ok (.invokespecial 3, 3) := by decide +kernel
theorem d_M_init_4 : decode c_M_init 4 = .ok (.aload_n 0, 1) := by decide +kernel
theorem d_M_init_5 : decode c_M_init 5 = .ok (.sipush 256, 3) := by decide +kernel
theorem d_M_init_8 : decode c_M_init 8 = .ok (.newarray .int, 2) := by decide +kernel
theorem d_M_init_10 : decode c_M_init 10 = .ok (.putfield 11, 3) := by decide +kernel
theorem d_M_init_13 : decode c_M_init 13 = .ok (.return_, 1) := by decide +kernel
set_option maxHeartbeats 40000000 in
set_option maxRecDepth 100000 in
theorem mt_M_init (l : Launch) (D : va_G)  (a0 : Nat)  (sz : Nat) : Met l y_M_init w_M_init ({ frames := 1, cells := 1, slots := 256, locals := 12 }) (va_Pc [.ref a0] (zw_pre D vwCl [] sz [(a0, .inr (1, [.null]))] (fun _ => True))) (va_Qv (fun (u : Nat × ClassId) => True) (fun (u : Nat × ClassId) t => zn_at D vwCl (va_A [(a0, .inr (1, [.null]))] sz) ((fun (u : Nat × ClassId) => wM a0 u.1 u.2 (fun _ => (0 : Int32))) u) ((fun (u : Nat × ClassId) => [(u.2, .int)]) u) t) (va_A [(a0, .inr (1, [.null]))] sz)) 1 256 (va_A [(a0, .inr (1, [.null]))] sz) := by
  refine zmI (l := l) (y := y_M_init) (ws := w_M_init) (av := [.ref a0]) (w := [(a0, .inr (1, [.null]))]) (tys := []) (sz := sz) (mc := 1) (ms := 256) (D := D) (cl := vwCl) (Qf := fun A => va_Qv (fun (u : Nat × ClassId) => True) (fun (u : Nat × ClassId) t => zn_at D vwCl A ((fun (u : Nat × ClassId) => wM a0 u.1 u.2 (fun _ => (0 : Int32))) u) ((fun (u : Nat × ClassId) => [(u.2, .int)]) u) t) A) (Zf := fun _ _ => True) (cc := c_M_init) (nL := 1) (ret := none) (by decide) (by rfl) rfl (Nat.le_of_ble_eq_true rfl) ?_
  intro p e s m below meth c9 A H locs ls hx hb hml hown hts hr hlocks hin hA hK hP hD hS hZ hl
  have hl : lv_has ls 1 [(0, .ref a0)] := hl
  have ht : ∀ w9 ∈ zT, w9.before _ s = true := fun w9 h9 => hts w9 (List.mem_cons_of_mem _ h9)
  refine lv_aload_n hx hb d_M_init_0 rfl (lv_at hl 0 rfl) ?_
  refine W.objInit hx hb hown (ht _ zw_32) (ht _ zw_25) (ht _ zw_26) rfl (by rw [hml]; exact hl.1) rfl d_M_init_1 (Nat.le_of_ble_eq_true rfl) (Nat.le_of_ble_eq_true rfl) ?_
  refine W.eq (g2 := F0 m 4 ls []) rfl ?_
  refine lv_aload_n hx hb d_M_init_4 rfl (lv_at hl 0 rfl) ?_
  refine lv_sipush (v := (256 : Int32)) hx hb d_M_init_5 (by decide) ?_
  refine va_newa (D := D) (atype := .int) hx hb (ht _ zw_37) (ty := .int) rfl hK hP hD hS hA (N' := 256) (a0 := (256, .inl (fun _ => (0 : Int32)))) (fun _ => rfl) (by decide) rfl (by decide) (Nat.le_of_ble_eq_true rfl) (Nat.le_of_ble_eq_true rfl) d_M_init_8 (fun q_1 c_2 H hK hP hD hS => ?_)
  have hP : va_P D vwCl [(a0, .inr (1, [.null])), (q_1, .inl (c_2, 256, .inl (fun _ => (0 : Int32))))] H := hP
  have hD : va_D A [(a0, .inr (1, [.null])), (q_1, .inl (c_2, 256, .inl (fun _ => (0 : Int32))))] := hD
  have hK : va_K D vwCl [(c_2, .int)] s := hK
  refine va_putF (D := D) (ci := 1) (v := .ref q_1) (ty := (.array .int)) (C := "WindowMachine$Memory") (T := T_M) (N := 1) hx hb ht zi_M ty_M tyok_M nm_M hown hK hP hD hS 0 rfl rfl 0 (by decide) (ht _ zw_33) (fun _ h9 => h9) rfl hin rfl (by decide +kernel) rfl rfl (Nat.le_of_ble_eq_true rfl) d_M_init_10 (fun H locs hP hD hS => ?_)
  have hP : va_P D vwCl [(a0, .inr (1, [.ref q_1])), (q_1, .inl (c_2, 256, .inl (fun _ => (0 : Int32))))] H := hP
  have hD : va_D A [(a0, .inr (1, [.ref q_1])), (q_1, .inl (c_2, 256, .inl (fun _ => (0 : Int32))))] := hD
  exact zn_v (u := (q_1, c_2)) hx hb hr hlocks hS hP hD hK trivial d_M_init_13
theorem d_R_init_0 : decode c_R_init 0 = .ok (.aload_n 0, 1) := by decide +kernel
theorem d_R_init_1 : decode c_R_init 1 = .ok (.invokespecial 3, 3) := by decide +kernel
theorem d_R_init_4 : decode c_R_init 4 = .ok (.aload_n 0, 1) := by decide +kernel
theorem d_R_init_5 : decode c_R_init 5 = .ok (.bipush 72, 2) := by decide +kernel
theorem d_R_init_7 : decode c_R_init 7 = .ok (.newarray .int, 2) := by decide +kernel
theorem d_R_init_9 : decode c_R_init 9 = .ok (.putfield 11, 3) := by decide +kernel
theorem d_R_init_12 : decode c_R_init 12 = .ok (.return_, 1) := by decide +kernel
set_option maxHeartbeats 40000000 in
set_option maxRecDepth 100000 in
theorem mt_R_init (l : Launch) (D : va_G)  (a0 : Nat)  (sz : Nat) : Met l y_R_init w_R_init ({ frames := 1, cells := 1, slots := 72, locals := 12 }) (va_Pc [.ref a0] (zw_pre D vwCl [] sz [(a0, .inr (4, [.null]))] (fun _ => True))) (va_Qv (fun (u : Nat × ClassId) => True) (fun (u : Nat × ClassId) t => zn_at D vwCl (va_A [(a0, .inr (4, [.null]))] sz) ((fun (u : Nat × ClassId) => wR a0 u.1 u.2 (fun _ => (0 : Int32))) u) ((fun (u : Nat × ClassId) => [(u.2, .int)]) u) t) (va_A [(a0, .inr (4, [.null]))] sz)) 1 72 (va_A [(a0, .inr (4, [.null]))] sz) := by
  refine zmI (l := l) (y := y_R_init) (ws := w_R_init) (av := [.ref a0]) (w := [(a0, .inr (4, [.null]))]) (tys := []) (sz := sz) (mc := 1) (ms := 72) (D := D) (cl := vwCl) (Qf := fun A => va_Qv (fun (u : Nat × ClassId) => True) (fun (u : Nat × ClassId) t => zn_at D vwCl A ((fun (u : Nat × ClassId) => wR a0 u.1 u.2 (fun _ => (0 : Int32))) u) ((fun (u : Nat × ClassId) => [(u.2, .int)]) u) t) A) (Zf := fun _ _ => True) (cc := c_R_init) (nL := 1) (ret := none) (by decide) (by rfl) rfl (Nat.le_of_ble_eq_true rfl) ?_
  intro p e s m below meth c9 A H locs ls hx hb hml hown hts hr hlocks hin hA hK hP hD hS hZ hl
  have hl : lv_has ls 1 [(0, .ref a0)] := hl
  have ht : ∀ w9 ∈ zT, w9.before _ s = true := fun w9 h9 => hts w9 (List.mem_cons_of_mem _ h9)
  refine lv_aload_n hx hb d_R_init_0 rfl (lv_at hl 0 rfl) ?_
  refine W.objInit hx hb hown (ht _ zw_74) (ht _ zw_25) (ht _ zw_26) rfl (by rw [hml]; exact hl.1) rfl d_R_init_1 (Nat.le_of_ble_eq_true rfl) (Nat.le_of_ble_eq_true rfl) ?_
  refine W.eq (g2 := F0 m 4 ls []) rfl ?_
  refine lv_aload_n hx hb d_R_init_4 rfl (lv_at hl 0 rfl) ?_
  refine lv_bipush (v := (72 : Int32)) hx hb d_R_init_5 (by decide) ?_
  refine va_newa (D := D) (atype := .int) hx hb (ht _ zw_37) (ty := .int) rfl hK hP hD hS hA (N' := 72) (a0 := (72, .inl (fun _ => (0 : Int32)))) (fun _ => rfl) (by decide) rfl (by decide) (Nat.le_of_ble_eq_true rfl) (Nat.le_of_ble_eq_true rfl) d_R_init_7 (fun q_1 c_2 H hK hP hD hS => ?_)
  have hP : va_P D vwCl [(a0, .inr (4, [.null])), (q_1, .inl (c_2, 72, .inl (fun _ => (0 : Int32))))] H := hP
  have hD : va_D A [(a0, .inr (4, [.null])), (q_1, .inl (c_2, 72, .inl (fun _ => (0 : Int32))))] := hD
  have hK : va_K D vwCl [(c_2, .int)] s := hK
  refine va_putF (D := D) (ci := 4) (v := .ref q_1) (ty := (.array .int)) (C := "WindowMachine$Registers") (T := T_R) (N := 1) hx hb ht zi_R ty_R tyok_R nm_R hown hK hP hD hS 0 rfl rfl 0 (by decide) (ht _ zw_75) (fun _ h9 => h9) rfl hin rfl (by decide +kernel) rfl rfl (Nat.le_of_ble_eq_true rfl) d_R_init_9 (fun H locs hP hD hS => ?_)
  have hP : va_P D vwCl [(a0, .inr (4, [.ref q_1])), (q_1, .inl (c_2, 72, .inl (fun _ => (0 : Int32))))] H := hP
  have hD : va_D A [(a0, .inr (4, [.ref q_1])), (q_1, .inl (c_2, 72, .inl (fun _ => (0 : Int32))))] := hD
  exact zn_v (u := (q_1, c_2)) hx hb hr hlocks hS hP hD hK trivial d_R_init_12
theorem d_K_init_0 : decode c_K_init 0 = .ok (.aload_n 0, 1) := by decide +kernel
theorem d_K_init_1 : decode c_K_init 1 = .ok (.invokespecial 1, 3) := by decide +kernel
theorem d_K_init_4 : decode c_K_init 4 = .ok (.return_, 1) := by decide +kernel
set_option maxHeartbeats 40000000 in
set_option maxRecDepth 100000 in
theorem mt_K_init (l : Launch) (D : va_G)  (a0 : Nat)  (sz : Nat) : Met l y_K_init w_K_init ({ frames := 1, cells := 0, slots := 0, locals := 12 }) (va_Pc [.ref a0] (zw_pre D vwCl [] sz [(a0, .inr (3, [.int 0, .int 0, .int 0, .int 0]))] (fun _ => True))) (va_Qv (fun (u : Unit) => True) (fun (u : Unit) t => zn_at D vwCl (va_A [(a0, .inr (3, [.int 0, .int 0, .int 0, .int 0]))] sz) ((fun (u : Unit) => wK a0 (fun _ => (0 : Int32))) u) ((fun (u : Unit) => []) u) t) (va_A [(a0, .inr (3, [.int 0, .int 0, .int 0, .int 0]))] sz)) 0 0 (va_A [(a0, .inr (3, [.int 0, .int 0, .int 0, .int 0]))] sz) := by
  refine zmI (l := l) (y := y_K_init) (ws := w_K_init) (av := [.ref a0]) (w := [(a0, .inr (3, [.int 0, .int 0, .int 0, .int 0]))]) (tys := []) (sz := sz) (mc := 0) (ms := 0) (D := D) (cl := vwCl) (Qf := fun A => va_Qv (fun (u : Unit) => True) (fun (u : Unit) t => zn_at D vwCl A ((fun (u : Unit) => wK a0 (fun _ => (0 : Int32))) u) ((fun (u : Unit) => []) u) t) A) (Zf := fun _ _ => True) (cc := c_K_init) (nL := 1) (ret := none) (by decide) (by rfl) rfl (Nat.le_of_ble_eq_true rfl) ?_
  intro p e s m below meth c9 A H locs ls hx hb hml hown hts hr hlocks hin hA hK hP hD hS hZ hl
  have hl : lv_has ls 1 [(0, .ref a0)] := hl
  have ht : ∀ w9 ∈ zT, w9.before _ s = true := fun w9 h9 => hts w9 (List.mem_cons_of_mem _ h9)
  refine lv_aload_n hx hb d_K_init_0 rfl (lv_at hl 0 rfl) ?_
  refine W.objInit hx hb hown (ht _ zw_84) (ht _ zw_25) (ht _ zw_26) rfl (by rw [hml]; exact hl.1) rfl d_K_init_1 (Nat.le_of_ble_eq_true rfl) (Nat.le_of_ble_eq_true rfl) ?_
  refine W.eq (g2 := F0 m 4 ls []) rfl ?_
  exact zn_v (u := ()) hx hb hr hlocks hS hP hD hK trivial d_K_init_4
theorem d_A_init_0 : decode c_A_init 0 = .ok (.aload_n 0, 1) := by decide +kernel
theorem d_A_init_1 : decode c_A_init 1 = .ok (.invokespecial 3, 3) := by decide +kernel
theorem d_A_init_4 : decode c_A_init 4 = .ok (.aload_n 0, 1) := by decide +kernel
theorem d_A_init_5 : decode c_A_init 5 = .ok (.bipush 40, 2) := by decide +kernel
theorem d_A_init_7 : decode c_A_init 7 = .ok (.newarray .char, 2) := by decide +kernel
theorem d_A_init_9 : decode c_A_init 9 = .ok (.putfield 11, 3) := by decide +kernel
theorem d_A_init_12 : decode c_A_init 12 = .ok (.aload_n 0, 1) := by decide +kernel
theorem d_A_init_13 : decode c_A_init 13 = .ok (.iconst (-1), 1) := by decide +kernel
theorem d_A_init_14 : decode c_A_init 14 = .ok (.putfield 15, 3) := by decide +kernel
theorem d_A_init_17 : decode c_A_init 17 = .ok (.return_, 1) := by decide +kernel
set_option maxHeartbeats 40000000 in
set_option maxRecDepth 100000 in
theorem mt_A_init (l : Launch) (D : va_G)  (a0 : Nat)  (sz : Nat) : Met l y_A_init w_A_init ({ frames := 1, cells := 1, slots := 40, locals := 12 }) (va_Pc [.ref a0] (zw_pre D vwCl [] sz [(a0, .inr (0, [.null, .int 0, .int 0, .int 0, .int 0]))] (fun _ => True))) (va_Qv (fun (u : Nat × ClassId) => True) (fun (u : Nat × ClassId) t => zn_at D vwCl (va_A [(a0, .inr (0, [.null, .int 0, .int 0, .int 0, .int 0]))] sz) ((fun (u : Nat × ClassId) => wA a0 u.1 u.2 (upd (fun _ => (0 : Int32)) 2 (-1 : Int32), fun _ => (0 : Int32))) u) ((fun (u : Nat × ClassId) => [(u.2, .char)]) u) t) (va_A [(a0, .inr (0, [.null, .int 0, .int 0, .int 0, .int 0]))] sz)) 1 40 (va_A [(a0, .inr (0, [.null, .int 0, .int 0, .int 0, .int 0]))] sz) := by
  refine zmI (l := l) (y := y_A_init) (ws := w_A_init) (av := [.ref a0]) (w := [(a0, .inr (0, [.null, .int 0, .int 0, .int 0, .int 0]))]) (tys := []) (sz := sz) (mc := 1) (ms := 40) (D := D) (cl := vwCl) (Qf := fun A => va_Qv (fun (u : Nat × ClassId) => True) (fun (u : Nat × ClassId) t => zn_at D vwCl A ((fun (u : Nat × ClassId) => wA a0 u.1 u.2 (upd (fun _ => (0 : Int32)) 2 (-1 : Int32), fun _ => (0 : Int32))) u) ((fun (u : Nat × ClassId) => [(u.2, .char)]) u) t) A) (Zf := fun _ _ => True) (cc := c_A_init) (nL := 1) (ret := none) (by decide) (by rfl) rfl (Nat.le_of_ble_eq_true rfl) ?_
  intro p e s m below meth c9 A H locs ls hx hb hml hown hts hr hlocks hin hA hK hP hD hS hZ hl
  have hl : lv_has ls 1 [(0, .ref a0)] := hl
  have ht : ∀ w9 ∈ zT, w9.before _ s = true := fun w9 h9 => hts w9 (List.mem_cons_of_mem _ h9)
  refine lv_aload_n hx hb d_A_init_0 rfl (lv_at hl 0 rfl) ?_
  refine W.objInit hx hb hown (ht _ zw_43) (ht _ zw_25) (ht _ zw_26) rfl (by rw [hml]; exact hl.1) rfl d_A_init_1 (Nat.le_of_ble_eq_true rfl) (Nat.le_of_ble_eq_true rfl) ?_
  refine W.eq (g2 := F0 m 4 ls []) rfl ?_
  refine lv_aload_n hx hb d_A_init_4 rfl (lv_at hl 0 rfl) ?_
  refine lv_bipush (v := (40 : Int32)) hx hb d_A_init_5 (by decide) ?_
  refine va_newa (D := D) (atype := .char) hx hb (ht _ zw_62) (ty := .char) rfl hK hP hD hS hA (N' := 40) (a0 := (40, .inl (fun _ => (0 : Int32)))) (fun _ => rfl) (by decide) rfl (by decide) (Nat.le_of_ble_eq_true rfl) (Nat.le_of_ble_eq_true rfl) d_A_init_7 (fun q_1 c_2 H hK hP hD hS => ?_)
  have hP : va_P D vwCl [(a0, .inr (0, [.null, .int 0, .int 0, .int 0, .int 0])), (q_1, .inl (c_2, 40, .inl (fun _ => (0 : Int32))))] H := hP
  have hD : va_D A [(a0, .inr (0, [.null, .int 0, .int 0, .int 0, .int 0])), (q_1, .inl (c_2, 40, .inl (fun _ => (0 : Int32))))] := hD
  have hK : va_K D vwCl [(c_2, .char)] s := hK
  refine va_putF (D := D) (ci := 0) (v := .ref q_1) (ty := (.array .char)) (C := "WindowMachine$Assembler") (T := T_A) (N := 5) hx hb ht zi_A ty_A tyok_A nm_A hown hK hP hD hS 0 rfl rfl 0 (by decide) (ht _ zw_44) (fun _ h9 => h9) rfl hin rfl (by decide +kernel) rfl rfl (Nat.le_of_ble_eq_true rfl) d_A_init_9 (fun H locs hP hD hS => ?_)
  have hP : va_P D vwCl [(a0, .inr (0, [.ref q_1, .int 0, .int 0, .int 0, .int 0])), (q_1, .inl (c_2, 40, .inl (fun _ => (0 : Int32))))] H := hP
  have hD : va_D A [(a0, .inr (0, [.ref q_1, .int 0, .int 0, .int 0, .int 0])), (q_1, .inl (c_2, 40, .inl (fun _ => (0 : Int32))))] := hD
  refine lv_aload_n hx hb d_A_init_12 rfl (lv_at hl 0 rfl) ?_
  refine lv_iconst (v := (-1 : Int32)) hx hb d_A_init_13 (by decide) ?_
  refine va_put (D := D) (ci := 0) (v := .int (-1 : Int32)) (ty := .int) (C := "WindowMachine$Assembler") (T := T_A) (N := 5) hx hb ht zi_A ty_A tyok_A nm_A hown hK hP hD hS 0 rfl rfl 3 (by decide) (ht _ zw_48) (fun _ h9 => h9) rfl (by decide +kernel) rfl rfl (Nat.le_of_ble_eq_true rfl) d_A_init_14 (fun H locs hP hD hS => ?_)
  have hP : va_P D vwCl [(a0, .inr (0, [.ref q_1, .int 0, .int 0, .int (-1 : Int32), .int 0])), (q_1, .inl (c_2, 40, .inl (fun _ => (0 : Int32))))] H := hP
  have hD : va_D A [(a0, .inr (0, [.ref q_1, .int 0, .int 0, .int (-1 : Int32), .int 0])), (q_1, .inl (c_2, 40, .inl (fun _ => (0 : Int32))))] := hD
  exact zn_v (u := (q_1, c_2)) hx hb hr hlocks hS hP hD hK trivial d_A_init_17
