/-! methods that may throw -/
theorem zmx {l : Launch} {y : MethodName} {ws ws' : List Cond} {rm : Room} {cc : ByteArray} {nL : Nat} {ret : Option FieldType} {D : va_G} {cl : List vw_C} {tys : List (ClassId × FieldType)} {sz : Nat} {w : va_W} {av : List Value} {mc ms : Nat}
    (Qf : (Nat → Prop) → Array Value → State → Outcome → State → Prop) (Xf : (Nat → Prop) → String → State → State → Prop) (Zf : (Nat → Prop) → State → Prop)
    (hy : plainName y.cls = true) (hw : ws = Cond.code y cc nL ret :: ws') (hlen : (lg_sl av).length ≤ nL)
    (body : ∀ (p : Program) (e : Env) (s : State) (m : MethodId) (below : List Frame) (meth : Method) (c : Code) (A : Nat → Prop) (H : Heap) (locs : List Loc) (ls : Array Slot),
      p.tables.exec = Jvm.exec → c.code = cc → c.maxLocals = nL → s.vm.findClass y.cls = some m.cls → (∀ w' ∈ ws, w'.before av.toArray s = true) → meth.sig.returnType = ret → meth.locks = false →
      (∀ q : Nat, s.heap.size ≤ q → A q) → va_K D cl tys s → va_P D cl w H → va_D A w → va_S A s.heap H locs → Zf A s → lv_has ls nL (lv_args 0 av) → (∀ x ∈ c.exceptionTable.toList, False) →
      W p l e rm s m av.toArray below meth c H locs 0 0 (vx_MQ below (Qf A) (Xf A) av.toArray s mc ms A) (F0 m 0 ls [])) :
    vx_Met l y ws rm (va_Pc av (zw_pre D cl tys sz w (Zf (va_A w sz)))) (Qf (va_A w sz)) (Xf (va_A w sz)) mc ms (va_A w sz) := by
  refine vx_ofW (cc := cc) (maxL := nL) (ret := ret) hy hw ?_
  intro p e s m args below meth c s₁ B hml hex hv
  obtain ⟨rfl, hsz, hP, hK, hD0, hZ⟩ := hv
  have hts := atoms_spec (ws := ws) B.pre
  have hl := lv_entry av (n := nL) hlen
  rw [lg_entry_eq]
  subst hsz
  exact body p e s m below meth c (va_A w s.heap.size) s.heap [] _ B.exec B.bytes hml (findClass_of_methodNamed B.named) hts B.returns B.notSynchronized (fun q h => Or.inr h) hK hP (hD0.self (sz := s.heap.size)) va_S.rf hZ hl hex
/-- what a throw leaves behind -/
def zx (D : va_G) (cl : List vw_C) {S : Type} (px : S → Prop) (En : String → S → Prop) (wn : S → va_W) (A : Nat → Prop) : String → State → State → Prop := vx_X px (fun E u t => En E u ∧ zw_at D cl A (wn u) t) A
theorem zx_fin {D : va_G} {cl : List vw_C} {S : Type} {px : S → Prop} {En : String → S → Prop} {wn : S → va_W} {A : Nat → Prop} {s : State} {H : Heap} {locs : List Loc} {u : S} {E : String} (hP : va_P D cl (wn u) H) (hD : va_D A (wn u)) (hS : va_S A s.heap H locs) (hp : px u) (hE : En E u) :
    ∀ t : State, s.vm.Alike t.vm → H.size ≤ t.heap.size → (∀ q : Nat, q < H.size → t.heap[q]? = H[q]?) → zx D cl px En wn A E s t :=
  fun t _ hz hq => ⟨u, hp, ⟨hE, hP.kept (fun k q hk => hq q.1 (hP k q hk).lt), hD⟩, Nat.le_trans hS.1 hz, fun q h1 h2 => by rw [hq q (Nat.lt_of_lt_of_le h1 hS.1)]; exact hS.2.1 q h1 h2⟩
theorem zx_at {D : va_G} {cl : List vw_C} {S : Type} {px : S → Prop} {En : String → S → Prop} {wn : S → va_W} {A : Nat → Prop} {s : State} {H : Heap} {locs : List Loc} {u : S} {E : String} (hP : va_P D cl (wn u) H) (hD : va_D A (wn u)) (hS : va_S A s.heap H locs) (hp : px u) (hE : En E u) :
    ∀ t : State, t.heap = H → zx D cl px En wn A E s t := fun t ht => ⟨u, hp, ⟨hE, by show va_P D cl (wn u) t.heap; rw [ht]; exact hP, hD⟩, hS.F ht⟩
section ZX
variable {p : Program} {l : Launch} {e : Env} {R : Room} {s : State} {m : MethodId} {args : Array Value} {below : List Frame} {meth : Method} {c : Code} {H : Heap} {locs : List Loc} {cells slots : Nat}
variable {pc : Nat} {ls : Array Slot} {D : va_G} {cl : List vw_C} {A : Nat → Prop} {w wc : va_W} {av : Array Value} {st0 rest : List Value} {mc ms MC MS : Nat} {Qc : Array Value → State → Outcome → State → Prop} {XC : String → State → State → Prop}
/-- a call that may throw what nobody catches here -/
theorem zxc_v {S SX : Type} {post : S → Prop} {px : SX → Prop} {En : String → SX → Prop} {wn : S → va_W} {wx : SX → va_W} (w2 : S → va_W) (w3 : SX → va_W)
    (hr : vx_Run p l e R s m args below meth c H locs cells slots mc ms (F0 m pc ls st0) rest (va_Qv post (fun u t => zw_at D cl (va_A wc H.size) (wn u) t) (va_A wc H.size) av) (zx D cl px En wx (va_A wc H.size)) (va_A wc H.size))
    (hP : va_P D cl w H) (hD : va_D A w) (hS : va_S A s.heap H locs) (hA : ∀ q, s.heap.size ≤ q → A q) (isC isR pm : List Nat) (hC : isC.map (fun i => w[i]?) = wc.map some)
    (hR : isR.map (fun i => w[i]?) = (isR.filterMap (fun i => w[i]?)).map some) (hn : va_nd isR = true) (hdis : ∀ i ∈ isR, i ∉ isC) (hpn : va_nd pm = true) (hpm : ∀ u, pm.map (fun i => (isR.filterMap (fun i => w[i]?) ++ wn u)[i]?) = (w2 u).map some)
    (hpx : ∀ u, pm.map (fun i => (isR.filterMap (fun i => w[i]?) ++ wx u)[i]?) = (w3 u).map some)
    (hex : ∀ x ∈ c.exceptionTable.toList, False) (hlocks : meth.locks = false) (hc : cells + mc ≤ MC) (hs : slots + ms ≤ MS)
    (kx : ∀ (E : String) (u : SX) (H1 : Heap) (locs1 : List Loc), px u → En E u → va_P D cl (w3 u) H1 → va_D A (w3 u) → va_S A s.heap H1 locs1 → ∀ t : State, t.heap = H1 → XC E s t)
    (kk : ∀ (u : S) (H1 : Heap) (locs1 : List Loc), post u → va_P D cl (w2 u) H1 → va_D A (w2 u) → va_S A s.heap H1 locs1 → W p l e R s m args below meth c H1 locs1 (cells + mc) (slots + ms) (vx_MQ below Qc XC args s MC MS A) (F0 m (pc + 3) ls rest)) :
    W p l e R s m args below meth c H locs cells slots (vx_MQ below Qc XC args s MC MS A) (F0 m pc ls st0) := by
  have hF := va_free (wc := wc) hD hS hA isC hC
  refine vx_callv hr hS (fun q _ h => hF q h) hF (fun q _ h => hF q h) (fun E ce q9 u t H1 locs1 ht _ hp hB _ hk1 hS1 hce hcv hcl => ?_) (fun u t H1 locs1 ht _ hw hB _ hk1 hS1 => ?_)
  · obtain ⟨hE, hP1, hD1⟩ := hB
    rw [ht] at hP1
    obtain ⟨hP2, hD2⟩ := zc_join (wn := wx) (w2 := w3) hP hD hS hA isC isR pm hC hR hn hdis hpn hpx hk1 hP1 hD1
    exact vx_out (fun x hx => (hex x hx).elim) hlocks hce hcv hcl (fun t2 ht2 _ => kx E u H1 locs1 hp hE hP2 hD2 hS1 t2 ht2) hS1.2.2 hc hs
  · obtain ⟨hP1, hD1⟩ := hB
    rw [ht] at hP1
    obtain ⟨hP2, hD2⟩ := zc_join hP hD hS hA isC isR pm hC hR hn hdis hpn hpm hk1 hP1 hD1
    exact kk u H1 locs1 hw hP2 hD2 hS1
end ZX
def zy (za zk zv : Nat → Nat) (A : Nat → Prop) (U : State) : Prop :=
  zz za zk zv A U ∧
  va_Nw (Jvm.Cond.castable "java/lang/IllegalArgumentException" "java/lang/IllegalArgumentException") U ∧
  va_Nw (Jvm.Cond.declares ({ cls := "java/lang/RuntimeException", name := "<init>", desc := "()V" } : Jvm.MethodName)) U ∧
  va_Nw (Jvm.Cond.declares ({ cls := "java/lang/RuntimeException", name := "<init>", desc := "(Ljava/lang/String;)V" } : Jvm.MethodName)) U ∧
  va_Nw (Jvm.Cond.declares ({ cls := "java/lang/Exception", name := "<init>", desc := "()V" } : Jvm.MethodName)) U ∧
  va_Nw (Jvm.Cond.declares ({ cls := "java/lang/Exception", name := "<init>", desc := "(Ljava/lang/String;)V" } : Jvm.MethodName)) U ∧
  va_Nw (Jvm.Cond.declares ({ cls := "java/lang/Throwable", name := "<init>", desc := "()V" } : Jvm.MethodName)) U ∧
  va_Nw (Jvm.Cond.declares ({ cls := "java/lang/Throwable", name := "<init>", desc := "(Ljava/lang/String;)V" } : Jvm.MethodName)) U ∧
  va_Nw (Jvm.Cond.castable "java/lang/IndexOutOfBoundsException" "java/lang/IndexOutOfBoundsException") U ∧
  va_Nw (Jvm.Cond.castable "java/lang/IllegalStateException" "java/lang/IllegalStateException") U
theorem zy_bl {za zk zv : Nat → Nat} {A : Nat → Prop} : zw_bl (zy za zk zv A) := fun U V hh hv h => ⟨zz_bl U V hh hv h.1, va_Nw.same rfl hv (h.2.1), va_Nw.same rfl hv (h.2.2.1), va_Nw.same rfl hv (h.2.2.2.1), va_Nw.same rfl hv (h.2.2.2.2.1), va_Nw.same rfl hv (h.2.2.2.2.2.1), va_Nw.same rfl hv (h.2.2.2.2.2.2.1), va_Nw.same rfl hv (h.2.2.2.2.2.2.2.1), va_Nw.same rfl hv (h.2.2.2.2.2.2.2.2.1), va_Nw.same rfl hv (h.2.2.2.2.2.2.2.2.2)⟩
theorem zy_go {za zk zv : Nat → Nat} {A B : Nat → Prop} {s U : State} {H : Heap} {locs : List Loc} (h : zy za zk zv A s) (hS : va_S A s.heap H locs) (hB : ∀ q, B q → A q) (hU : U.heap = H) (hW : s.WarmedH U.vm) : zy za zk zv B U :=
  ⟨zz_go h.1 hS hB hU hW, va_Nw.warmC hW (h.2.1), va_Nw.warmD hW (h.2.2.1), va_Nw.warmD hW (h.2.2.2.1), va_Nw.warmD hW (h.2.2.2.2.1), va_Nw.warmD hW (h.2.2.2.2.2.1), va_Nw.warmD hW (h.2.2.2.2.2.2.1), va_Nw.warmD hW (h.2.2.2.2.2.2.2.1), va_Nw.warmC hW (h.2.2.2.2.2.2.2.2.1), va_Nw.warmC hW (h.2.2.2.2.2.2.2.2.2)⟩
def zyB : List Cond := [(Jvm.Cond.castable "java/lang/IllegalArgumentException" "java/lang/IllegalArgumentException"), (Jvm.Cond.declares ({ cls := "java/lang/RuntimeException", name := "<init>", desc := "()V" } : Jvm.MethodName)), (Jvm.Cond.declares ({ cls := "java/lang/RuntimeException", name := "<init>", desc := "(Ljava/lang/String;)V" } : Jvm.MethodName)), (Jvm.Cond.declares ({ cls := "java/lang/Exception", name := "<init>", desc := "()V" } : Jvm.MethodName)), (Jvm.Cond.declares ({ cls := "java/lang/Exception", name := "<init>", desc := "(Ljava/lang/String;)V" } : Jvm.MethodName)), (Jvm.Cond.declares ({ cls := "java/lang/Throwable", name := "<init>", desc := "()V" } : Jvm.MethodName)), (Jvm.Cond.declares ({ cls := "java/lang/Throwable", name := "<init>", desc := "(Ljava/lang/String;)V" } : Jvm.MethodName)), (Jvm.Cond.castable "java/lang/IndexOutOfBoundsException" "java/lang/IndexOutOfBoundsException"), (Jvm.Cond.castable "java/lang/IllegalStateException" "java/lang/IllegalStateException")]
theorem zyB_ok {za zk zv : Nat → Nat} {A : Nat → Prop} {s : State} {args : Array Value} (h : zy za zk zv A s) : ∀ w ∈ zyB, w.before args s = true := vx_c (va_Nw.use rfl (h.2.1)) (vx_c (va_Nw.use rfl (h.2.2.1)) (vx_c (va_Nw.use rfl (h.2.2.2.1)) (vx_c (va_Nw.use rfl (h.2.2.2.2.1)) (vx_c (va_Nw.use rfl (h.2.2.2.2.2.1)) (vx_c (va_Nw.use rfl (h.2.2.2.2.2.2.1)) (vx_c (va_Nw.use rfl (h.2.2.2.2.2.2.2.1)) (vx_c (va_Nw.use rfl (h.2.2.2.2.2.2.2.2.1)) (vx_c (va_Nw.use rfl (h.2.2.2.2.2.2.2.2.2)) (vx_n)))))))))
theorem hg_40 : ∀ w ∈ (vx_atS "WindowMachine" 40 "java/lang/IllegalArgumentException" ["java/lang/RuntimeException", "java/lang/Exception"]).filter goodWord, w ∈ zT := by decide +kernel
theorem hr_40 : ∀ w ∈ (vx_atS "WindowMachine" 40 "java/lang/IllegalArgumentException" ["java/lang/RuntimeException", "java/lang/Exception"]).filter (fun w => !goodWord w), w ∈ zyB := by decide +kernel
theorem ho_40 : ∀ w ∈ Cond.classLink "WindowMachine" 36 "java/lang/IllegalArgumentException" :: Cond.initialized "java/lang/IllegalArgumentException" :: vx_atS "WindowMachine" 40 "java/lang/IllegalArgumentException" ["java/lang/RuntimeException", "java/lang/Exception"], vx_ot w = true := by decide +kernel
theorem hat_40 {za zk zv : Nat → Nat} {A : Nat → Prop} {s : State} {args : Array Value} (ht : ∀ w ∈ zT, w.before args s = true) (hY : zy za zk zv A s) : ∀ w ∈ vx_atS "WindowMachine" 40 "java/lang/IllegalArgumentException" ["java/lang/RuntimeException", "java/lang/Exception"], w.before args s = true := vx_hat (fun w h => ht w (hg_40 w h)) hr_40 (zyB_ok hY)
theorem hg_51 : ∀ w ∈ (vx_atS "WindowMachine" 51 "java/lang/IndexOutOfBoundsException" ["java/lang/RuntimeException", "java/lang/Exception"]).filter goodWord, w ∈ zT := by decide +kernel
theorem hr_51 : ∀ w ∈ (vx_atS "WindowMachine" 51 "java/lang/IndexOutOfBoundsException" ["java/lang/RuntimeException", "java/lang/Exception"]).filter (fun w => !goodWord w), w ∈ zyB := by decide +kernel
theorem ho_51 : ∀ w ∈ Cond.classLink "WindowMachine" 47 "java/lang/IndexOutOfBoundsException" :: Cond.initialized "java/lang/IndexOutOfBoundsException" :: vx_atS "WindowMachine" 51 "java/lang/IndexOutOfBoundsException" ["java/lang/RuntimeException", "java/lang/Exception"], vx_ot w = true := by decide +kernel
theorem hat_51 {za zk zv : Nat → Nat} {A : Nat → Prop} {s : State} {args : Array Value} (ht : ∀ w ∈ zT, w.before args s = true) (hY : zy za zk zv A s) : ∀ w ∈ vx_atS "WindowMachine" 51 "java/lang/IndexOutOfBoundsException" ["java/lang/RuntimeException", "java/lang/Exception"], w.before args s = true := vx_hat (fun w h => ht w (hg_51 w h)) hr_51 (zyB_ok hY)
theorem hg_91 : ∀ w ∈ (vx_atS "WindowMachine" 91 "java/lang/IllegalStateException" ["java/lang/RuntimeException", "java/lang/Exception"]).filter goodWord, w ∈ zT := by decide +kernel
theorem hr_91 : ∀ w ∈ (vx_atS "WindowMachine" 91 "java/lang/IllegalStateException" ["java/lang/RuntimeException", "java/lang/Exception"]).filter (fun w => !goodWord w), w ∈ zyB := by decide +kernel
theorem ho_91 : ∀ w ∈ Cond.classLink "WindowMachine" 87 "java/lang/IllegalStateException" :: Cond.initialized "java/lang/IllegalStateException" :: vx_atS "WindowMachine" 91 "java/lang/IllegalStateException" ["java/lang/RuntimeException", "java/lang/Exception"], vx_ot w = true := by decide +kernel
theorem hat_91 {za zk zv : Nat → Nat} {A : Nat → Prop} {s : State} {args : Array Value} (ht : ∀ w ∈ zT, w.before args s = true) (hY : zy za zk zv A s) : ∀ w ∈ vx_atS "WindowMachine" 91 "java/lang/IllegalStateException" ["java/lang/RuntimeException", "java/lang/Exception"], w.before args s = true := vx_hat (fun w h => ht w (hg_91 w h)) hr_91 (zyB_ok hY)
