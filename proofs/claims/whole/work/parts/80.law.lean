/-- entry of a body with handlers -/
theorem zmW {l : Launch} {y : MethodName} {ws ws' : List Cond} {rm : Room} {cc : ByteArray} {nL : Nat} {ret : Option FieldType} {hh : List (Nat × Nat × Nat × Nat)} {D : va_G} {cl : List vw_C} {tys : List (ClassId × FieldType)} {sz : Nat} {w : va_W} {av : List Value} {mc ms : Nat}
    (Qf : (Nat → Prop) → Array Value → State → Outcome → State → Prop) (Zf : (Nat → Prop) → State → Prop)
    (hy : plainName y.cls = true) (hw : ws = Cond.codeWith y cc nL ret hh :: ws') (hlen : (lg_sl av).length ≤ nL)
    (body : ∀ (p : Program) (e : Env) (s : State) (m : MethodId) (below : List Frame) (meth : Method) (c : Code) (A : Nat → Prop) (H : Heap) (locs : List Loc) (ls : Array Slot),
      p.tables.exec = Jvm.exec → c.code = cc → c.maxLocals = nL → s.vm.findClass y.cls = some m.cls → (∀ w' ∈ ws, w'.before av.toArray s = true) → meth.sig.returnType = ret → meth.locks = false →
      (∀ q : Nat, s.heap.size ≤ q → A q) → va_K D cl tys s → va_P D cl w H → va_D A w → va_S A s.heap H locs → Zf A s → lv_has ls nL (lv_args 0 av) → c.exceptionTable.toList = tableOf hh →
      W p l e rm s m av.toArray below meth c H locs 0 0 (MQ below (Qf A) av.toArray s mc ms A) (F0 m 0 ls [])) :
    Met l y ws rm (va_Pc av (zw_pre D cl tys sz w (Zf (va_A w sz)))) (Qf (va_A w sz)) mc ms (va_A w sz) := by
  refine va_MetW (cc := cc) (maxL := nL) (ret := ret) (hh := hh) hy hw ?_
  intro p e s m args below meth c s₁ B hml hv
  obtain ⟨rfl, hsz, hP, hK, hD0, hZ⟩ := hv
  have hts := atoms_spec (ws := ws) B.pre
  have hl := lv_entry av (n := nL) hlen
  have hex := vx_table (x := y) B (hts _ (by rw [hw]; exact List.mem_cons_self))
  rw [lg_entry_eq]
  subst hsz
  exact body p e s m below meth c (va_A w s.heap.size) s.heap [] _ B.exec B.bytes hml (findClass_of_methodNamed B.named) hts B.returns B.notSynchronized (fun q h => Or.inr h) hK hP (hD0.self (sz := s.heap.size)) va_S.rf hZ hl hex
section ZH
variable {p : Program} {l : Launch} {e : Env} {R : Room} {s : State} {m : MethodId} {args : Array Value} {below : List Frame} {meth : Method} {c : Code} {H : Heap} {locs : List Loc} {cells slots : Nat} {Q : State → Prop}
variable {pc : Nat} {ls : Array Slot} {D : va_G} {cl : List vw_C} {A : Nat → Prop} {w wc : va_W} {av : Array Value} {st0 rest : List Value} {mc ms : Nat}
/-- a call whose throws are caught here -/
theorem zhc_i {S SX : Type} {post : Int32 → S → Prop} {px : SX → Prop} {En : String → SX → Prop} {wn : S → va_W} {wx : SX → va_W} (w2 : S → va_W) (w3 : SX → va_W)
    (hr : vx_Run p l e R s m args below meth c H locs cells slots mc ms (F0 m pc ls st0) rest (va_Qi post (fun u t => zw_at D cl (va_A wc H.size) (wn u) t) (va_A wc H.size) av) (zx D cl px En wx (va_A wc H.size)) (va_A wc H.size))
    (hP : va_P D cl w H) (hD : va_D A w) (hS : va_S A s.heap H locs) (hA : ∀ q, s.heap.size ≤ q → A q) (isC isR pm : List Nat) (hC : isC.map (fun i => w[i]?) = wc.map some)
    (hR : isR.map (fun i => w[i]?) = (isR.filterMap (fun i => w[i]?)).map some) (hn : va_nd isR = true) (hdis : ∀ i ∈ isR, i ∉ isC) (hpn : va_nd pm = true) (hpm : ∀ u, pm.map (fun i => (isR.filterMap (fun i => w[i]?) ++ wn u)[i]?) = (w2 u).map some)
    (hpx : ∀ u, pm.map (fun i => (isR.filterMap (fun i => w[i]?) ++ wx u)[i]?) = (w3 u).map some)
    (kx : ∀ (E : String) (ce : Cell) (q9 : Addr) (u : SX) (H1 : Heap) (locs1 : List Loc), px u → En E u → va_P D cl (w3 u) H1 → va_D A (w3 u) → va_S A s.heap H1 locs1 → H1[q9]? = some ce → ce.vm = .none → s.vm.findClass E = some ce.cls → vx_W p l e R s m args below meth c H1 locs1 (cells + mc) (slots + ms) Q (F0 m pc ls rest) q9)
    (kk : ∀ (r : Int32) (u : S) (H1 : Heap) (locs1 : List Loc), post r u → va_P D cl (w2 u) H1 → va_D A (w2 u) → va_S A s.heap H1 locs1 → W p l e R s m args below meth c H1 locs1 (cells + mc) (slots + ms) Q (F0 m (pc + 3) ls (.int r :: rest))) :
    W p l e R s m args below meth c H locs cells slots Q (F0 m pc ls st0) := by
  have hF := va_free (wc := wc) hD hS hA isC hC
  refine vx_calli hr hS (fun q _ h => hF q h) hF (fun q _ h => hF q h) (fun E ce q9 u t H1 locs1 ht _ hp hB _ hk1 hS1 hce hcv hcl => ?_) (fun r u t H1 locs1 ht _ hw hB _ hk1 hS1 => ?_)
  · obtain ⟨hE, hP1, hD1⟩ := hB
    rw [ht] at hP1
    obtain ⟨hP2, hD2⟩ := zc_join (wn := wx) (w2 := w3) hP hD hS hA isC isR pm hC hR hn hdis hpn hpx hk1 hP1 hD1
    exact kx E ce q9 u H1 locs1 hp hE hP2 hD2 hS1 hce hcv hcl
  · obtain ⟨hP1, hD1⟩ := hB
    rw [ht] at hP1
    obtain ⟨hP2, hD2⟩ := zc_join hP hD hS hA isC isR pm hC hR hn hdis hpn hpm hk1 hP1 hD1
    exact kk r u H1 locs1 hw hP2 hD2 hS1
end ZH
/-- the class's world and the law's own array -/
def wL (h : Nat → Nat) (c : Nat → ClassId) (o : Nat) (co : ClassId) (st : SX) (ov : Nat → Int64) : va_W := wX h c st ++ [(o, .inl (co, 1, .inr (.inl ov)))]
/-- what the law's helpers need of the start -/
def zh (za zk zv : Nat → Nat) (A : Nat → Prop) (U : State) : Prop := zy za zk zv A U ∧ va_Nc "java/lang/IndexOutOfBoundsException" "java/lang/IllegalArgumentException" U ∧ va_Nc "java/lang/IllegalStateException" "java/lang/IllegalArgumentException" U
theorem zh_bl {za zk zv : Nat → Nat} {A : Nat → Prop} : zw_bl (zh za zk zv A) := fun U V hh hv h => by
  have ha : U.vm.Alike V.vm := by rw [hv]; exact Vm.Alike.refl _
  exact ⟨zy_bl U V hh hv h.1, h.2.1.moved ha, h.2.2.moved ha⟩
theorem zh_go {za zk zv : Nat → Nat} {A B : Nat → Prop} {s U : State} {H : Heap} {locs : List Loc} (h : zh za zk zv A s) (hS : va_S A s.heap H locs) (hB : ∀ q, B q → A q) (hU : U.heap = H) (hW : s.WarmedH U.vm) : zh za zk zv B U :=
  ⟨zy_go h.1 hS hB hU hW, h.2.1.moved hW.alike, h.2.2.moved hW.alike⟩
theorem pcode1 {c : Prop} {d : Decidable c} {a b : Int32 × Int32 × SX} {k : Int32 → Prop} (ha : k a.1) (hb : k b.1) : k (@ite _ c d a b).1 := by
  by_cases h : c
  · rw [if_pos h]; exact ha
  · rw [if_neg h]; exact hb
/-- the codes of the face -/
theorem cd_put (st : SX) (a b : Int32) : (f_putX st a b).1 = 0 ∨ (f_putX st a b).1 = 1 := by
  unfold f_putX; dsimp only; exact pcode1 (k := fun z => z = 0 ∨ z = 1) (Or.inl rfl) (Or.inr rfl)
theorem cd_word (st : SX) (a : Int32) : (f_wordX st a).1 = 0 ∨ (f_wordX st a).1 = 1 := by
  unfold f_wordX; dsimp only; exact pcode1 (k := fun z => z = 0 ∨ z = 1) (Or.inl rfl) (Or.inr rfl)
theorem cd_set (st : SX) (a b c : Int32) : (f_setX st a b c).1 = 0 ∨ (f_setX st a b c).1 = 1 := by
  unfold f_setX; dsimp only; exact pcode1 (k := fun z => z = 0 ∨ z = 1) (Or.inl rfl) (Or.inr rfl)
theorem cd_register (st : SX) (a b : Int32) : (f_registerX st a b).1 = 0 ∨ (f_registerX st a b).1 = 1 := by
  unfold f_registerX; dsimp only; exact pcode1 (k := fun z => z = 0 ∨ z = 1) (Or.inl rfl) (Or.inr rfl)
theorem cd_start (st : SX) (a : Int32) : (f_startX st a).1 = 0 ∨ (f_startX st a).1 = 1 := by
  unfold f_startX; dsimp only; exact pcode1 (k := fun z => z = 0 ∨ z = 1) (Or.inr rfl) (Or.inl rfl)
theorem cd_state (st : SX) (a : Int32) : (f_stateX st a).1 = 0 ∨ (f_stateX st a).1 = 1 := by
  unfold f_stateX; dsimp only; exact pcode1 (k := fun z => z = 0 ∨ z = 1) (Or.inr rfl) (pcode1 (k := fun z => z = 0 ∨ z = 1) (Or.inl rfl) (Or.inr rfl))
theorem cd_mode (st : SX) (a b c d e : Int32) : (f_modeX st a b c d e).1 = 0 ∨ (f_modeX st a b c d e).1 = 1 := by
  unfold f_modeX; dsimp only
  have P : ∀ {c : Prop} {d : Decidable c} {a b : Int32 × Int32 × SX}, (a.1 = 0 ∨ a.1 = 1) → (b.1 = 0 ∨ b.1 = 1) → ((@ite _ c d a b).1 = 0 ∨ (@ite _ c d a b).1 = 1) := fun ha hb => pcode1 (k := fun z => z = 0 ∨ z = 1) ha hb
  exact P (Or.inr rfl) (P (Or.inr rfl) (P (Or.inr rfl) (P (Or.inr rfl) (P (Or.inr rfl) (P (Or.inl rfl) (Or.inr rfl))))))
theorem cd_letters (st : SX) (a : Int64) : (f_lettersX st a).1 = 0 ∨ (f_lettersX st a).1 = 1 ∨ (f_lettersX st a).1 = 2 := by
  unfold f_lettersX; dsimp only
  exact pcode1 (k := fun z => z = 0 ∨ z = 1 ∨ z = 2) (Or.inr (Or.inl rfl)) (pcode1 (k := fun z => z = 0 ∨ z = 1 ∨ z = 2) (Or.inr (Or.inr rfl)) (Or.inl rfl))
theorem cd_assemble (st : SX) (a : Int32) : (f_assembleX st a).1 = 0 ∨ (f_assembleX st a).1 = 1 ∨ (f_assembleX st a).1 = 2 := by
  unfold f_assembleX; dsimp only
  generalize f_translate st.2 = F
  exact pcode1 (k := fun z => z = 0 ∨ z = 1 ∨ z = 2) (pcode1 (k := fun z => z = 0 ∨ z = 1 ∨ z = 2) (Or.inl rfl) (Or.inr (Or.inr rfl))) (Or.inr (Or.inl rfl))
theorem cd_rl {st : SX} {p : Int32} : ∀ (n i : Nat) (u : SX), (fl_X_run_44 st p n i u).1 = 0 := by
  intro n
  induction n with
  | zero => intro i u; rfl
  | succ n ih =>
    intro i u
    rw [fl_X_run_44]
    dsimp only
    exact pcode1 (k := fun z => z = 0) rfl (pcode1 (k := fun z => z = 0) (ih (i + 1) _) rfl)
theorem cd_run (st : SX) (a : Int32) : (f_runX st a).1 = 0 ∨ (f_runX st a).1 = 1 ∨ (f_runX st a).1 = 2 := by
  unfold f_runX; dsimp only
  have P : ∀ {c : Prop} {d : Decidable c} {a b : Int32 × Int32 × SX}, (a.1 = 0 ∨ a.1 = 1 ∨ a.1 = 2) → (b.1 = 0 ∨ b.1 = 1 ∨ b.1 = 2) → ((@ite _ c d a b).1 = 0 ∨ (@ite _ c d a b).1 = 1 ∨ (@ite _ c d a b).1 = 2) := fun ha hb => pcode1 (k := fun z => z = 0 ∨ z = 1 ∨ z = 2) ha hb
  exact P (Or.inr (Or.inl rfl)) (P (P (Or.inl (cd_rl 202 0 st)) (Or.inr (Or.inr rfl))) (Or.inr (Or.inl rfl)))
abbrev w_L_put : List Cond := .codeWith y_L_put c_L_put 5 (some .int) [(0, 10, 13, 15)] :: zT
theorem d_L_put_0 : decode c_L_put 0 = .ok (.aload_n 3, 1) := by decide +kernel
theorem d_L_put_1 : decode c_L_put 1 = .ok (.iconst 0, 1) := by decide +kernel
theorem d_L_put_2 : decode c_L_put 2 = .ok (.aload_n 0, 1) := by decide +kernel
theorem d_L_put_3 : decode c_L_put 3 = .ok (.iload_n 1, 1) := by decide +kernel
theorem d_L_put_4 : decode c_L_put 4 = .ok (.iload_n 2, 1) := by decide +kernel
theorem d_L_put_5 : decode c_L_put 5 = .ok (.invokevirtual 21, 3) := by decide +kernel
theorem d_L_put_8 : decode c_L_put 8 = .ok (.i2l, 1) := by decide +kernel
theorem d_L_put_9 : decode c_L_put 9 = .ok (.lastore, 1) := by decide +kernel
theorem d_L_put_10 : decode c_L_put 10 = .ok (.goto 7, 3) := by decide +kernel
theorem d_L_put_13 : decode c_L_put 13 = .ok (.astore 4, 2) := by decide +kernel
theorem d_L_put_15 : decode c_L_put 15 = .ok (.iconst 1, 1) := by decide +kernel
theorem d_L_put_16 : decode c_L_put 16 = .ok (.ireturn, 1) := by decide +kernel
theorem d_L_put_17 : decode c_L_put 17 = .ok (.iconst 0, 1) := by decide +kernel
theorem d_L_put_18 : decode c_L_put 18 = .ok (.ireturn, 1) := by decide +kernel
theorem kd_L_put : (y_L_put).cls = "WindowMachineLaw" ∧ (y_L_put).cls ≠ "java/lang/invoke/MethodHandle" ∧ (y_L_put).cls ≠ "java/lang/invoke/VarHandle" ∧ (parseMethodDescriptor (y_L_put).desc).map (fun d => d.parameters.length) = some 4 := by decide +kernel
set_option maxHeartbeats 4000000 in
set_option maxRecDepth 100000 in
theorem mt_L_put (l : Launch) (hlt : l.stackTraces = false) (D : va_G) (za zk zv : Nat → Nat) (h : Nat → Nat) (c : Nat → ClassId) (o : Nat) (co : ClassId) (sz : Nat) (st : SX) (ov : Nat → Int64) (p0 : Int32) (p1 : Int32)  : Met l y_L_put w_L_put ({ frames := 8, cells := 1, slots := 6, locals := 130 }) (va_Pc [.ref (h 6), .int p0, .int p1, .ref o] (zw_pre D vwCl [(c 0, .int), (c 1, .int), (c 2, .char), (co, .long)] sz (wL h c o co st ov) (zh za zk zv (va_A (wL h c o co st ov) sz)))) (va_Qi (fun r (u : SX × (Nat → Int64)) => r = (f_putX st p0 p1).1 ∧ u.1 = (f_putX st p0 p1).2.2 ∧ ((f_putX st p0 p1).1 = (0 : Int32) → u.2 0 = (f_putX st p0 p1).2.1.toInt64)) (fun (u : SX × (Nat → Int64)) t => zw_at D vwCl (va_A (wL h c o co st ov) sz) ((fun (u : SX × (Nat → Int64)) => wL h c o co u.1 u.2) u) t) (va_A (wL h c o co st ov) sz)) 1 6 (va_A (wL h c o co st ov) sz) := by
  refine zmW (Qf := fun A => va_Qi (fun r (u : SX × (Nat → Int64)) => r = (f_putX st p0 p1).1 ∧ u.1 = (f_putX st p0 p1).2.2 ∧ ((f_putX st p0 p1).1 = (0 : Int32) → u.2 0 = (f_putX st p0 p1).2.1.toInt64)) (fun (u : SX × (Nat → Int64)) t => zw_at D vwCl A ((fun (u : SX × (Nat → Int64)) => wL h c o co u.1 u.2) u) t) A) (Zf := fun A => zh za zk zv A) (cc := c_L_put) (nL := 5) (ret := (some .int)) (hh := [(0, 10, 13, 15)]) (by decide) rfl (Nat.le_of_ble_eq_true rfl) ?_
  intro p e s m below meth c9 A H locs ls hx hb hml hown hts hr hlocks hA hK hP hD hS hZ hl hex
  have hl : lv_has ls 5 [(0, .ref (h 6)), (1, .int p0), (2, .int p1), (3, .ref o)] := hl
  have ht : ∀ w9 ∈ zT, w9.before _ s = true := fun w9 h9 => hts w9 (List.mem_cons_of_mem _ h9)
  refine lv_aload_n hx hb d_L_put_0 rfl (lv_at hl 3 rfl) ?_
  refine lv_iconst (v := (0 : Int32)) hx hb d_L_put_1 (by decide) ?_
  refine lv_aload_n hx hb d_L_put_2 rfl (lv_at hl 0 rfl) ?_
  refine lv_iload_n hx hb d_L_put_3 rfl (lv_at hl 1 rfl) ?_
  refine lv_iload_n hx hb d_L_put_4 rfl (lv_at hl 2 rfl) ?_
  refine zhc_i (w2 := fun u9 => wL h c o co u9 ov) (w3 := fun u9 => wL h c o co u9 ov) (vx_runV (As := [.int p0, .int p1]) (rest := [.int (0 : Int32), .ref o]) ⟨hx, hb, hml, hown, ht⟩ (mt_X_put l hlt D za zk zv h c H.size st p0 p1) (cwV 2 ht (zgV zw_477 zw_478 zw_479 zw_1 zw_480) rfl rfl rfl kd_X_put ⟨Nat.le_of_ble_eq_true rfl, Nat.le_of_ble_eq_true rfl⟩) ⟨zw_blind zy_bl, va_recv (hK.sub (tys' := [(c 0, .int), (c 1, .int), (c 2, .char)]) [0, 1, 2] rfl) (hP.sub (ws' := wX h c st) [0, 1, 2, 3, 4, 5, 6, 7, 8] rfl) (ci := 5) (q0 := 0) rfl rfl, zw_go (hP.sub (ws' := wX h c st) [0, 1, 2, 3, 4, 5, 6, 7, 8] rfl) (hD.sub (ws' := wX h c st) [0, 1, 2, 3, 4, 5, 6, 7, 8] (by decide) rfl) (hK.sub (tys' := [(c 0, .int), (c 1, .int), (c 2, .char)]) [0, 1, 2] rfl) (fun U hU hW9 => zy_go hZ.1 hS (va_free (wc := wX h c st) hD hS hA [0, 1, 2, 3, 4, 5, 6, 7, 8] rfl) hU hW9)⟩ rfl rfl hl.1 rfl (lv_room (Nat.le_of_ble_eq_true rfl)) d_L_put_5 ⟨Nat.le_of_ble_eq_true rfl, Nat.le_of_ble_eq_true rfl⟩) hP hD hS hA [0, 1, 2, 3, 4, 5, 6, 7, 8] [9] [1, 2, 3, 4, 5, 6, 7, 8, 9, 0] rfl rfl (by decide) (by decide) (by decide) (fun _ => rfl) (fun _ => rfl) (fun E ce q9 u H locs hp hE hP hD hS hce hcv hcl => ?_) (fun r u H locs hw hP hD hS => ?_)
  · have k1 := (cd_put st p0 p1).resolve_left hp.1
    have hE : E = "java/lang/IndexOutOfBoundsException" := hE
    subst hE
    refine vx_catch hown [] (⟨0, 10, 13, 15⟩ : ExceptionTableEntry) [] hex (fun z hz => nomatch hz) (by decide) (by decide) (ht _ zw_192) (zyB_ok hZ.1 _ (List.mem_of_getElem? (i := 7) rfl)) hce hcv hcl ?_
    refine lv_astore (lv' := [(4, .ref q9), (0, .ref (h 6)), (1, .int p0), (2, .int p1), (3, .ref o)]) hx hb d_L_put_13 hl (by decide) rfl (fun ls hl => ?_)
    refine lv_iconst (v := (1 : Int32)) hx hb d_L_put_15 (by decide) ?_
    exact zl_i (u := (u, ov)) hx hb hr hlocks hS hP hD ⟨k1.symm, hp.2, fun z => absurd z hp.1⟩ d_L_put_16
  refine lv_i2l (v := r.toInt64) hx hb d_L_put_8 rfl ?_
  refine va_last hx hb hK hP hD hS 9 3 rfl rfl (by unfold vp_in; decide) d_L_put_9 (fun H locs hP hD hS => ?_)
  have hP : va_P D vwCl (wL h c o co u (vp_updL ov (0 : Int32).toNatClampNeg r.toInt64)) H := hP
  have hD : va_D A (wL h c o co u (vp_updL ov (0 : Int32).toNatClampNeg r.toInt64)) := hD
  refine lv_goto (tgt := 17) hx hb d_L_put_10 (by decide) ?_
  refine lv_iconst (v := (0 : Int32)) hx hb d_L_put_17 (by decide) ?_
  exact zl_i (u := (u, vp_updL ov (0 : Int32).toNatClampNeg r.toInt64)) hx hb hr hlocks hS hP hD ⟨hw.1.symm, hw.2.2, fun _ => by rw [← hw.2.1]; rfl⟩ d_L_put_18
