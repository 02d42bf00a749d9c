/-! my rows: a method's world before and behind it, entry, end, calls, joins -/
def zushr (x y : Int32) : Int32 := (x.toUInt32 >>> (y.toUInt32 &&& Int32.toUInt32 31)).toInt32
def zlushr (x : Int64) (y : Int32) : Int64 := (x.toUInt64 >>> (y.toInt64.toUInt64 &&& Int64.toUInt64 63)).toInt64
def zlshl (x : Int64) (y : Int32) : Int64 := x <<< (y.toInt64 &&& 63)
def zlshr (x : Int64) (y : Int32) : Int64 := x >>> (y.toInt64 &&& 63)
def zchar (x : Int32) : Int32 := (x.toUInt32 % 65536).toInt32
def zbyte (x : Int32) : Int32 := x.toInt8.toInt32
def zshort (x : Int32) : Int32 := x.toInt16.toInt32
def zw_pre (D : va_G) (cl : List vw_C) (tys : List (ClassId × FieldType)) (sz : Nat) (w : va_W) (Z : State → Prop) (U : State) : Prop :=
  U.heap.size = sz ∧ va_P D cl w U.heap ∧ va_K D cl tys U ∧ va_D (fun _ => True) w ∧ Z U
def zw_at (D : va_G) (cl : List vw_C) (A : Nat → Prop) (w : va_W) (t : State) : Prop := va_P D cl w t.heap ∧ va_D A w
def zw_bl (Z : State → Prop) : Prop := ∀ (U V : State), V.heap = U.heap → U.vm = V.vm → Z U → Z V
theorem zw_tt : zw_bl (fun _ => True) := fun _ _ _ _ _ => trivial
theorem zw_blind {D : va_G} {cl : List vw_C} {tys : List (ClassId × FieldType)} {sz : Nat} {w : va_W} {Z : State → Prop} {av : List Value} (hZ : zw_bl Z) : FrameBlind (va_Pc av (zw_pre D cl tys sz w Z)) := by
  intro a U g mk q
  obtain ⟨q0, q1, qP, qK, qD, qZ⟩ := q
  exact ⟨q0, q1, qP, va_K.moved (u := U) (U := U.calling g mk a) (Vm.Alike.refl U.vm) qK, qD, hZ U (U.calling g mk a) rfl rfl qZ⟩
theorem zw_go {D : va_G} {cl : List vw_C} {tys : List (ClassId × FieldType)} {w : va_W} {Z : State → Prop} {av : List Value} {s : State} {H : Heap} {A : Nat → Prop} (hP : va_P D cl w H) (hD : va_D A w) (hK : va_K D cl tys s) (hZ : ∀ U : State, U.heap = H → s.WarmedH U.vm → Z U) :
    ∀ U : State, U.heap = H → s.WarmedH U.vm → va_Pc av (zw_pre D cl tys H.size w Z) av.toArray U :=
  fun U hU hW => ⟨rfl, by rw [hU], by rw [hU]; exact hP, va_K.moved hW.alike hK, hD.weaken (fun _ _ _ _ => trivial), hZ U hU hW⟩
theorem zf_some {α β : Type} {f : α → Option β} : ∀ {is : List α} {ws : List β}, is.map f = ws.map some → is.filterMap f = ws := by
  intro is
  induction is with
  | nil =>
    intro ws h
    cases ws with
    | nil => rfl
    | cons b t => simp at h
  | cons a t ih =>
    intro ws h
    cases ws with
    | nil => simp at h
    | cons b t' =>
      rw [List.map_cons, List.map_cons, List.cons.injEq] at h
      rw [List.filterMap_cons_some h.1, ih h.2]
/-- entry -/
theorem zm {l : Launch} {y : MethodName} {ws ws' : List Cond} {rm : Room} {cc : ByteArray} {nL : Nat} {ret : Option FieldType} {D : va_G} {cl : List vw_C} {tys : List (ClassId × FieldType)} {sz : Nat} {w : va_W} {av : List Value} {mc ms : Nat}
    (Qf : (Nat → Prop) → Array Value → State → Outcome → State → Prop) (Zf : (Nat → Prop) → State → Prop)
    (hy : plainName y.cls = true) (hw : ws = Cond.code y cc nL ret :: ws') (hlen : (lg_sl av).length ≤ nL)
    (body : ∀ (p : Program) (e : Env) (s : State) (m : MethodId) (below : List Frame) (meth : Method) (c : Code) (A : Nat → Prop) (H : Heap) (locs : List Loc) (ls : Array Slot),
      p.tables.exec = Jvm.exec → c.code = cc → c.maxLocals = nL → s.vm.findClass y.cls = some m.cls → (∀ w' ∈ ws, w'.before av.toArray s = true) → meth.sig.returnType = ret → meth.locks = false →
      (∀ q : Nat, s.heap.size ≤ q → A q) → va_K D cl tys s → va_P D cl w H → va_D A w → va_S A s.heap H locs → Zf A s → lv_has ls nL (lv_args 0 av) →
      W p l e rm s m av.toArray below meth c H locs 0 0 (MQ below (Qf A) av.toArray s mc ms A) (F0 m 0 ls [])) :
    Met l y ws rm (va_Pc av (zw_pre D cl tys sz w (Zf (va_A w sz)))) (Qf (va_A w sz)) mc ms (va_A w sz) := by
  refine Met.ofW (cc := cc) (maxL := nL) (ret := ret) hy hw ?_
  intro p e s m args below meth c s₁ B hml hv
  obtain ⟨rfl, hsz, hP, hK, hD0, hZ⟩ := hv
  have hts := atoms_spec (ws := ws) B.pre
  have hl := lv_entry av (n := nL) hlen
  rw [lg_entry_eq]
  subst hsz
  exact body p e s m below meth c (va_A w s.heap.size) s.heap [] _ B.exec B.bytes hml (findClass_of_methodNamed B.named) hts B.returns B.notSynchronized (fun q h => Or.inr h) hK hP (hD0.self (sz := s.heap.size)) va_S.rf hZ hl
section ZR
variable {p : Program} {l : Launch} {e : Env} {R : Room} {s : State} {m : MethodId} {args : Array Value} {below : List Frame} {meth : Method} {c : Code} {H : Heap} {locs : List Loc} {cells slots : Nat} {Q : State → Prop}
variable {cc : ByteArray} {pc : Nat} {ls : Array Slot} {D : va_G} {cl : List vw_C} {A : Nat → Prop}
/-- ends -/
theorem zl_i {S : Type} {post : Int32 → S → Prop} {wn : S → va_W} {v : Int32} {u : S} (hx : p.tables.exec = Jvm.exec) (hb : c.code = cc) (hr : meth.sig.returnType = some .int) (hlocks : meth.locks = false) (hS : va_S A s.heap H locs) (hP : va_P D cl (wn u) H) (hD : va_D A (wn u)) (hp : post v u) (hdg : decode cc pc = .ok (.ireturn, 1)) :
    W p l e R s m args below meth c H locs cells slots (MQ below (va_Qi post (fun u t => zw_at D cl A (wn u) t) A) args s cells slots A) (F0 m pc ls [.int v]) :=
  W.iret (v := v) hx hb hr (fun t ht _ => ⟨⟨v, u, rfl, hp, by rw [ht]; exact hP, hD⟩, hS.F ht⟩) hS.2.2 hdg hlocks
theorem zl_z {S : Type} {post : Int32 → S → Prop} {wn : S → va_W} {v : Int32} {u : S} {ty : FieldType} (hx : p.tables.exec = Jvm.exec) (hb : c.code = cc) (hr : meth.sig.returnType = some ty) (hn : narrow ty (.int v) = .int v) (hlocks : meth.locks = false) (hS : va_S A s.heap H locs) (hP : va_P D cl (wn u) H) (hD : va_D A (wn u)) (hp : post v u) (hdg : decode cc pc = .ok (.ireturn, 1)) :
    W p l e R s m args below meth c H locs cells slots (MQ below (va_Qi post (fun u t => zw_at D cl A (wn u) t) A) args s cells slots A) (F0 m pc ls [.int v]) :=
  W.zret (v := v) hx hb hr hn (fun t ht _ => ⟨⟨v, u, rfl, hp, by rw [ht]; exact hP, hD⟩, hS.F ht⟩) hS.2.2 hdg hlocks
theorem zl_l {S : Type} {post : Int64 → S → Prop} {wn : S → va_W} {v : Int64} {u : S} (hx : p.tables.exec = Jvm.exec) (hb : c.code = cc) (hr : meth.sig.returnType = some .long) (hlocks : meth.locks = false) (hS : va_S A s.heap H locs) (hP : va_P D cl (wn u) H) (hD : va_D A (wn u)) (hp : post v u) (hdg : decode cc pc = .ok (.lreturn, 1)) :
    W p l e R s m args below meth c H locs cells slots (MQ below (va_Ql post (fun u t => zw_at D cl A (wn u) t) A) args s cells slots A) (F0 m pc ls [.long v]) :=
  W.lret (v := v) hx hb hr (fun t ht _ => ⟨⟨v, u, rfl, hp, by rw [ht]; exact hP, hD⟩, hS.F ht⟩) hS.2.2 hdg hlocks
theorem zl_v {S : Type} {post : S → Prop} {wn : S → va_W} {u : S} (hx : p.tables.exec = Jvm.exec) (hb : c.code = cc) (hr : meth.sig.returnType = none) (hlocks : meth.locks = false) (hS : va_S A s.heap H locs) (hP : va_P D cl (wn u) H) (hD : va_D A (wn u)) (hp : post u) (hdg : decode cc pc = .ok (.return_, 1)) :
    W p l e R s m args below meth c H locs cells slots (MQ below (va_Qv post (fun u t => zw_at D cl A (wn u) t) A) args s cells slots A) (F0 m pc ls []) :=
  W.vret hx hb hr (fun t ht _ => ⟨⟨u, rfl, hp, by rw [ht]; exact hP, hD⟩, hS.F ht⟩) hS.2.2 hdg hlocks
/-- a cut: what is behind a join is walked once -/
theorem zcut {X : Type} (G : X → Heap → List Loc → Array Slot → Prop) (fr : X → Array Slot → JFrame) {g : JFrame}
    (b : (∀ (v : X) (H : Heap) (locs : List Loc) (ls : Array Slot), G v H locs ls → W p l e R s m args below meth c H locs cells slots Q (fr v ls)) → W p l e R s m args below meth c H locs cells slots Q g)
    (k : ∀ (v : X) (H : Heap) (locs : List Loc) (ls : Array Slot), G v H locs ls → W p l e R s m args below meth c H locs cells slots Q (fr v ls)) : W p l e R s m args below meth c H locs cells slots Q g := b k
theorem zsame (g : JFrame) {g0 : JFrame} (k : W p l e R s m args below meth c H locs cells slots Q g) (b : W p l e R s m args below meth c H locs cells slots Q g → W p l e R s m args below meth c H locs cells slots Q g0) : W p l e R s m args below meth c H locs cells slots Q g0 := b k
/-! calls that make nothing -/
variable {w wc : va_W} {av : Array Value} {st0 rest : List Value}
theorem zc_join {S : Type} {wn w2 : S → va_W} {H1 : Heap} {u : S} (hP : va_P D cl w H) (hD : va_D A w) (hS : va_S A s.heap H locs) (hA : ∀ q, s.heap.size ≤ q → A q) (isC isR pm : List Nat) (hC : isC.map (fun i => w[i]?) = wc.map some)
    (hR : isR.map (fun i => w[i]?) = (isR.filterMap (fun i => w[i]?)).map some) (hn : va_nd isR = true) (hdis : ∀ i ∈ isR, i ∉ isC) (hpn : va_nd pm = true) (hpm : ∀ u, pm.map (fun i => (isR.filterMap (fun i => w[i]?) ++ wn u)[i]?) = (w2 u).map some)
    (hk1 : ∀ q : Nat, q < H.size → ¬ va_A wc H.size q → H1[q]? = H[q]?) (hP1 : va_P D cl (wn u) H1) (hD1 : va_D (va_A wc H.size) (wn u)) : va_P D cl (w2 u) H1 ∧ va_D A (w2 u) := by
  have hF := va_free (wc := wc) hD hS hA isC hC
  obtain ⟨hP2, hD2⟩ := va_join (w1 := wn u) hP hD isC isR hC hR hn hdis hk1 hF hP1 hD1
  exact ⟨hP2.sub pm (zf_some (hpm u)), hD2.sub pm hpn (hpm u)⟩
theorem zc_i {S : Type} {post : Int32 → S → Prop} {wn : S → va_W} (w2 : S → va_W)
    (hr : va_Run p l e R s m args below meth c H locs cells slots 0 0 (F0 m pc ls st0) rest (va_Qi post (fun u t => zw_at D cl (va_A wc H.size) (wn u) t) (va_A wc H.size) av) (va_A wc H.size))
    (hP : va_P D cl w H) (hD : va_D A w) (hS : va_S A s.heap H locs) (hA : ∀ q, s.heap.size ≤ q → A q) (isC isR pm : List Nat) (hC : isC.map (fun i => w[i]?) = wc.map some)
    (hR : isR.map (fun i => w[i]?) = (isR.filterMap (fun i => w[i]?)).map some) (hn : va_nd isR = true) (hdis : ∀ i ∈ isR, i ∉ isC) (hpn : va_nd pm = true) (hpm : ∀ u, pm.map (fun i => (isR.filterMap (fun i => w[i]?) ++ wn u)[i]?) = (w2 u).map some)
    (kk : ∀ (r : Int32) (u : S) (H1 : Heap) (locs1 : List Loc), post r u → va_P D cl (w2 u) H1 → va_D A (w2 u) → va_S A s.heap H1 locs1 → W p l e R s m args below meth c H1 locs1 cells slots Q (F0 m (pc + 3) ls (.int r :: rest))) :
    W p l e R s m args below meth c H locs cells slots Q (F0 m pc ls st0) := by
  have hF := va_free (wc := wc) hD hS hA isC hC
  refine va_calli hr hS (fun q _ h => hF q h) hF (fun r u t H1 locs1 ht _ hw hB _ hk1 hS1 => ?_)
  obtain ⟨hP1, hD1⟩ := hB
  rw [ht] at hP1
  obtain ⟨hP2, hD2⟩ := zc_join hP hD hS hA isC isR pm hC hR hn hdis hpn hpm hk1 hP1 hD1
  exact kk r u H1 locs1 hw hP2 hD2 hS1
theorem zc_l {S : Type} {post : Int64 → S → Prop} {wn : S → va_W} (w2 : S → va_W)
    (hr : va_Run p l e R s m args below meth c H locs cells slots 0 0 (F0 m pc ls st0) rest (va_Ql post (fun u t => zw_at D cl (va_A wc H.size) (wn u) t) (va_A wc H.size) av) (va_A wc H.size))
    (hP : va_P D cl w H) (hD : va_D A w) (hS : va_S A s.heap H locs) (hA : ∀ q, s.heap.size ≤ q → A q) (isC isR pm : List Nat) (hC : isC.map (fun i => w[i]?) = wc.map some)
    (hR : isR.map (fun i => w[i]?) = (isR.filterMap (fun i => w[i]?)).map some) (hn : va_nd isR = true) (hdis : ∀ i ∈ isR, i ∉ isC) (hpn : va_nd pm = true) (hpm : ∀ u, pm.map (fun i => (isR.filterMap (fun i => w[i]?) ++ wn u)[i]?) = (w2 u).map some)
    (kk : ∀ (r : Int64) (u : S) (H1 : Heap) (locs1 : List Loc), post r u → va_P D cl (w2 u) H1 → va_D A (w2 u) → va_S A s.heap H1 locs1 → W p l e R s m args below meth c H1 locs1 cells slots Q (F0 m (pc + 3) ls (.long r :: rest))) :
    W p l e R s m args below meth c H locs cells slots Q (F0 m pc ls st0) := by
  have hF := va_free (wc := wc) hD hS hA isC hC
  refine va_calll hr hS (fun q _ h => hF q h) hF (fun r u t H1 locs1 ht _ hw hB _ hk1 hS1 => ?_)
  obtain ⟨hP1, hD1⟩ := hB
  rw [ht] at hP1
  obtain ⟨hP2, hD2⟩ := zc_join hP hD hS hA isC isR pm hC hR hn hdis hpn hpm hk1 hP1 hD1
  exact kk r u H1 locs1 hw hP2 hD2 hS1
theorem zc_v {S : Type} {post : S → Prop} {wn : S → va_W} (w2 : S → va_W)
    (hr : va_Run p l e R s m args below meth c H locs cells slots 0 0 (F0 m pc ls st0) rest (va_Qv post (fun u t => zw_at D cl (va_A wc H.size) (wn u) t) (va_A wc H.size) av) (va_A wc H.size))
    (hP : va_P D cl w H) (hD : va_D A w) (hS : va_S A s.heap H locs) (hA : ∀ q, s.heap.size ≤ q → A q) (isC isR pm : List Nat) (hC : isC.map (fun i => w[i]?) = wc.map some)
    (hR : isR.map (fun i => w[i]?) = (isR.filterMap (fun i => w[i]?)).map some) (hn : va_nd isR = true) (hdis : ∀ i ∈ isR, i ∉ isC) (hpn : va_nd pm = true) (hpm : ∀ u, pm.map (fun i => (isR.filterMap (fun i => w[i]?) ++ wn u)[i]?) = (w2 u).map some)
    (kk : ∀ (u : S) (H1 : Heap) (locs1 : List Loc), post u → va_P D cl (w2 u) H1 → va_D A (w2 u) → va_S A s.heap H1 locs1 → W p l e R s m args below meth c H1 locs1 cells slots Q (F0 m (pc + 3) ls rest)) :
    W p l e R s m args below meth c H locs cells slots Q (F0 m pc ls st0) := by
  have hF := va_free (wc := wc) hD hS hA isC hC
  refine va_callv hr hS (fun q _ h => hF q h) hF (fun u t H1 locs1 ht _ hw hB _ hk1 hS1 => ?_)
  obtain ⟨hP1, hD1⟩ := hB
  rw [ht] at hP1
  obtain ⟨hP2, hD2⟩ := zc_join hP hD hS hA isC isR pm hC hR hn hdis hpn hpm hk1 hP1 hD1
  exact kk u H1 locs1 hw hP2 hD2 hS1
end ZR
section ZL
variable {p : Program} {l : Launch} {e : Env} {R : Room} {s : State} {m : MethodId} {args : Array Value} {below : List Frame} {meth : Method} {c : Code} {cells slots : Nat} {Q : State → Prop}
/-- a loop: G n v at its head; n falls -/
theorem zloop {X : Type} (G : Nat → X → Heap → List Loc → Array Slot → Prop) (fr : X → Array Slot → JFrame) {H : Heap} {locs : List Loc} {ls : Array Slot} (n : Nat) (v : X)
    (step : ∀ n : Nat, (∀ (v : X) (H : Heap) (locs : List Loc) (ls : Array Slot), G n v H locs ls → W p l e R s m args below meth c H locs cells slots Q (fr v ls)) → ∀ (v : X) (H : Heap) (locs : List Loc) (ls : Array Slot), G (n + 1) v H locs ls → W p l e R s m args below meth c H locs cells slots Q (fr v ls))
    (zero : ∀ (v : X) (H : Heap) (locs : List Loc) (ls : Array Slot), G 0 v H locs ls → False)
    (h : G n v H locs ls) : W p l e R s m args below meth c H locs cells slots Q (fr v ls) := by
  have key : ∀ (n : Nat) (v : X) (H : Heap) (locs : List Loc) (ls : Array Slot), G n v H locs ls → W p l e R s m args below meth c H locs cells slots Q (fr v ls) := by
    intro n
    induction n with
    | zero => intro v H locs ls h; exact (zero v H locs ls h).elim
    | succ n ih => exact step n ih
  exact key n v H locs ls h
end ZL
/-- a truth value -/
def zB (x : Int32) : Prop := x = 0 ∨ x = 1
theorem zB0 : zB (0 : Int32) := Or.inl rfl
theorem zB1 : zB (1 : Int32) := Or.inr rfl
theorem zB_ite {c : Prop} {d : Decidable c} {a b : Int32} (ha : zB a) (hb : zB b) : zB (@ite Int32 c d a b) := by
  by_cases h : c
  · rw [if_pos h]; exact ha
  · rw [if_neg h]; exact hb
theorem zB.n {x : Int32} (h : zB x) : narrow .boolean (.int x) = .int x := by rcases h with rfl | rfl <;> rfl
theorem zB.f {x : Int32} (h : zB x) : fits .boolean (.int x) = true := by rcases h with rfl | rfl <;> rfl
