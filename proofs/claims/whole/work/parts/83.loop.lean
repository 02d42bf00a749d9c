/-! THE CLAIM OUT OF ONE WALK OF THE LAW'S BODY. Your part is whole_start (and what it stands on); all else here is the same for every law, but numbers. -/
def R_law : String := "WindowMachineLaw"
def lw_P (b : Addr) (xs : List Int32) (args : Array Value) (s : State) : Prop := args = #[.ref b] ∧ s.IntsAt b xs ∧ xs.length ≤ 3072 ∧ (Jvm.Cond.and given_1 narrow_1).before args s = true
def lw_Q (_ : Array Value) (s : State) (o : Outcome) (t : State) : Prop := o = .returned (some (.int 1)) ∧ Framed s o t [] 1053 10093
def lw_Z (below : List Frame) (a : Array Value) (s : State) : State → Prop := fun t => ∃ o, t.status = .running ∧ Ended t below o ∧ lw_Q a s o t
/-- the law's own end, with 1 on the stack, nothing written that was there before, its room as the claim has it -/
theorem lw_ret {p : Program} {l : Launch} {e : Env} {s : State} {m : MethodId} {below : List Frame} {meth : Method} {c : Code} {b : Nat} (hx : p.tables.exec = Jvm.exec) (hb : c.code = code) (hr : meth.sig.returnType = ret) (hlocks : meth.locks = false) {pc : Nat} {H : Heap} {ls : Array Slot} (hdg : decode code pc = .ok (.ireturn, 1)) : W p l e room_1 s m #[Value.ref b] below meth c H [] 1053 10093 (lw_Z below #[Value.ref b] s) (F0 m pc ls [.int 1]) := by
  intro T hT X
  obtain ⟨fs, hret, hrun, hended, hW, hframe⟩ := X.leave (v := some (.int 1)) (hlocks := hlocks) (fun h => by rw [hr] at h; cases h)
  have hmeth' : T.vm.method? m = some meth := X.method'
  refine ⟨T.setFrames fs, ?_, .returned (some (.int 1)), hrun, hended, rfl, ⟨_, rfl⟩, hW, hframe⟩
  jvm_step X.here [X.here.top, hx, hb, hdg, hmeth', hr, ret, narrow_b1]
  (try refine ⟨rfl, ?_⟩); (try refine ⟨rfl, ?_⟩)
  first | (intro acts; rw [hret _ acts rfl rfl rfl]) | rw [hret _ _ rfl rfl rfl]
  exact Steps.refl _
/-- what holds at the law's entry: the machine, the code, the tables' words (any of lw_tbl by 'hts w (by decide +kernel)'), the script of L ints xs at the cell b, what the Statement gives of the start (any of its parts by flat_of_before) -/
def lw_At (p : Program) (s : State) (m : MethodId) (meth : Method) (c : Code) (b L : Nat) (xs : Nat → Int32) : Prop :=
  p.tables.exec = Jvm.exec ∧ c.code = code ∧ meth.sig.returnType = ret ∧ c.maxLocals = 7 ∧ s.vm.findClass R_law = some m.cls ∧ (∀ w ∈ lw_tbl, w.before #[Value.ref b] s = true) ∧ va_X b L xs s s.heap ∧ b < s.heap.size ∧ meth.locks = false ∧ (Jvm.Cond.and given_1 narrow_1).before #[Value.ref b] s = true
set_option maxHeartbeats 4000000 in
set_option maxRecDepth 100000 in
theorem law_loop {p : Program} {l : Launch} {e : Env} {s : State} {m : MethodId} {below : List Frame} {meth : Method} {c : Code} {D : va_G} {b L : Nat} {xs : Nat → Int32} {za zk zv : Nat → Nat} {g1 g2 : Nat → Nat} {k1 k2 : Nat → ClassId} {o : Nat} {co : ClassId} (hlt : l.stackTraces = false) (hx : p.tables.exec = Jvm.exec) (hb : c.code = code) (hml : c.maxLocals = 7) (hown : s.vm.findClass "WindowMachineLaw" = some m.cls) (ht : ∀ w9 ∈ zT, w9.before #[Value.ref b] s = true) (hX : va_X b L xs s s.heap) (hbl : b < s.heap.size) (hL : L ≤ 3072) (hZ : zh za zk zv (fun q : Nat => s.heap.size ≤ q) s) (hK : va_K D vwCl (tyZ k1 k2 co) s) (hr : meth.sig.returnType = ret) (hlocks : meth.locks = false) : ∀ (n k i : Nat), i = 6 * k → i ≤ 3078 → L + 1 ≤ i + n → ∀ (st : SX) (d : SD) (ov : Nat → Int64) (H : Heap) (locs : List Loc) (ls : Array Slot), RW st d → va_P D vwCl (wZ g1 k1 g2 k2 o co st d ov) H → va_D (fun q : Nat => s.heap.size ≤ q) (wZ g1 k1 g2 k2 o co st d ov) → va_S (fun q : Nat => s.heap.size ≤ q) s.heap H locs → lv_has ls 7 [(0, .ref b), (1, .ref (g1 6)), (2, .ref (g2 20)), (3, .ref o), (4, .int (nI i))] → W p l e room_1 s m #[Value.ref b] below meth c H locs (19 + k) (1841 + 6 * k) (lw_Z below #[Value.ref b] s) (F0 m 23 ls []) := by
  have hA : ∀ q : Nat, s.heap.size ≤ q → (fun q : Nat => s.heap.size ≤ q) q := fun _ h => h
  have hbA : ¬ (fun q : Nat => s.heap.size ≤ q) b := Nat.not_le.mpr hbl
  intro n
  induction n with
  | zero =>
    intro k i hk h1 h2 st d ov H locs ls hRW hP hD hS hl
    refine lv_iload hx hb d_law_23 (lv_at hl 4 rfl) ?_
    refine lv_aload_n hx hb d_law_25 rfl (lv_at hl 0 rfl) ?_
    refine va_slen hx hb hX hbl hbA hS d_law_26 ?_
    refine lv_bipush (v := (6 : Int32)) hx hb d_law_27 (by decide) ?_
    refine lv_isub hx hb d_law_29 ?_
    refine lv_icmp_gt (tgt := 807) hx hb d_law_30 (by decide) (fun c9 => ?_) (fun c9 => ?_)
    · refine lv_iconst (v := (1 : Int32)) hx hb d_law_807 (by decide) ?_
      refine va_forget (fun q hq => hS.2.2 q hq) ?_
      refine W.widen (k := 1053) (n := 10093) (by omega) (by omega) ?_
      exact lw_ret hx hb hr hlocks d_law_808
    · exact absurd (hd_in hL h1 c9) (by omega)
  | succ n ih =>
    intro k i hk h1 h2 st d ov H locs ls hRW hP hD hS hl
    refine lv_iload hx hb d_law_23 (lv_at hl 4 rfl) ?_
    refine lv_aload_n hx hb d_law_25 rfl (lv_at hl 0 rfl) ?_
    refine va_slen hx hb hX hbl hbA hS d_law_26 ?_
    refine lv_bipush (v := (6 : Int32)) hx hb d_law_27 (by decide) ?_
    refine lv_isub hx hb d_law_29 ?_
    refine lv_icmp_gt (tgt := 807) hx hb d_law_30 (by decide) (fun c9 => ?_) (fun c9 => ?_)
    · refine lv_iconst (v := (1 : Int32)) hx hb d_law_807 (by decide) ?_
      refine va_forget (fun q hq => hS.2.2 q hq) ?_
      refine W.widen (k := 1053) (n := 10093) (by omega) (by omega) ?_
      exact lw_ret hx hb hr hlocks d_law_808
    · have hi : i + 6 ≤ L := hd_in hL h1 c9
      have hback : ∀ (st : SX) (d : SD) (ov : Nat → Int64) (H : Heap) (locs : List Loc) (ls : Array Slot), RW st d → va_P D vwCl (wZ g1 k1 g2 k2 o co st d ov) H → va_D (fun q : Nat => s.heap.size ≤ q) (wZ g1 k1 g2 k2 o co st d ov) → va_S (fun q : Nat => s.heap.size ≤ q) s.heap H locs → lv_has ls 7 [(0, .ref b), (1, .ref (g1 6)), (2, .ref (g2 20)), (3, .ref o), (4, .int (nI i))] → W p l e room_1 s m #[Value.ref b] below meth c H locs (19 + k + 1) (1841 + 6 * k + 6) (lw_Z below #[Value.ref b] s) (F0 m 801 ls []) := by
        intro st d ov H locs ls hRW hP hD hS hl
        refine lv_iinc (v := nI (i + 6)) (lv' := [(4, .int (nI (i + 6))), (0, .ref b), (1, .ref (g1 6)), (2, .ref (g2 20)), (3, .ref o)]) hx hb d_law_801 hl (k := 4) rfl (by rw [← qnI_add]; rfl) (by decide) rfl (fun ls hl => ?_)
        refine lv_goto (tgt := 23) hx hb d_law_804 (by decide) ?_
        exact ih (k + 1) (i + 6) (by omega) (by omega) (by omega) st d ov H locs ls hRW hP hD hS (lv_sub hl [1, 2, 3, 4, 0] rfl)
      refine lv_aload_n hx hb d_law_33 rfl (lv_at hl 0 rfl) ?_
      refine lv_iload hx hb d_law_34 (lv_at hl 4 rfl) ?_
      refine va_sld hx hb hX hbl hbA hS (vp_in_nI (n := i) (N := L) (by omega) (by omega)) d_law_36 ?_
      refine lv_bipush (v := (15 : Int32)) hx hb d_law_37 (by decide) ?_
      refine lv_iand hx hb d_law_39 ?_
      refine lv_topi (fun y9 ey9 => ?_)
      by_cases c0 : y9 = (0 : Int32)
      · refine lv_tableIn (tgt := 100) hx hb d_law_40 (by rw [c0]; decide) (by rw [c0]; decide) (by rw [c0]; rfl) (by decide) ?_
        exact ar_letters hlt hx hb hml hown ht hX hbl hL hZ hK hi (by omega) (by omega) hRW hP hD hS hl hback
      by_cases c1 : y9 = (1 : Int32)
      · refine lv_tableIn (tgt := 188) hx hb d_law_40 (by rw [c1]; decide) (by rw [c1]; decide) (by rw [c1]; rfl) (by decide) ?_
        exact ar_assemble hlt hx hb hml hown ht hX hbl hL hZ hK hi (by omega) (by omega) hRW hP hD hS hl hback
      by_cases c2 : y9 = (2 : Int32)
      · refine lv_tableIn (tgt := 244) hx hb d_law_40 (by rw [c2]; decide) (by rw [c2]; decide) (by rw [c2]; rfl) (by decide) ?_
        exact ar_place hlt hx hb hml hown ht hX hbl hL hZ hK hi (by omega) (by omega) hRW hP hD hS hl hback
      by_cases c3 : y9 = (3 : Int32)
      · refine lv_tableIn (tgt := 257) hx hb d_law_40 (by rw [c3]; decide) (by rw [c3]; decide) (by rw [c3]; rfl) (by decide) ?_
        exact ar_put hlt hx hb hml hown ht hX hbl hL hZ hK hi (by omega) (by omega) hRW hP hD hS hl hback
      by_cases c4 : y9 = (4 : Int32)
      · refine lv_tableIn (tgt := 325) hx hb d_law_40 (by rw [c4]; decide) (by rw [c4]; decide) (by rw [c4]; rfl) (by decide) ?_
        exact ar_word hlt hx hb hml hown ht hX hbl hL hZ hK hi (by omega) (by omega) hRW hP hD hS hl hback
      by_cases c5 : y9 = (5 : Int32)
      · refine lv_tableIn (tgt := 381) hx hb d_law_40 (by rw [c5]; decide) (by rw [c5]; decide) (by rw [c5]; rfl) (by decide) ?_
        exact ar_run hlt hx hb hml hown ht hX hbl hL hZ hK hi (by omega) (by omega) hRW hP hD hS hl hback
      by_cases c6 : y9 = (6 : Int32)
      · refine lv_tableIn (tgt := 437) hx hb d_law_40 (by rw [c6]; decide) (by rw [c6]; decide) (by rw [c6]; rfl) (by decide) ?_
        exact ar_start hlt hx hb hml hown ht hX hbl hL hZ hK hi (by omega) (by omega) hRW hP hD hS hl hback
      by_cases c7 : y9 = (7 : Int32)
      · refine lv_tableIn (tgt := 493) hx hb d_law_40 (by rw [c7]; decide) (by rw [c7]; decide) (by rw [c7]; rfl) (by decide) ?_
        exact ar_set hlt hx hb hml hown ht hX hbl hL hZ hK hi (by omega) (by omega) hRW hP hD hS hl hback
      by_cases c8 : y9 = (8 : Int32)
      · refine lv_tableIn (tgt := 573) hx hb d_law_40 (by rw [c8]; decide) (by rw [c8]; decide) (by rw [c8]; rfl) (by decide) ?_
        exact ar_register hlt hx hb hml hown ht hX hbl hL hZ hK hi (by omega) (by omega) hRW hP hD hS hl hback
      by_cases c9 : y9 = (9 : Int32)
      · refine lv_tableIn (tgt := 641) hx hb d_law_40 (by rw [c9]; decide) (by rw [c9]; decide) (by rw [c9]; rfl) (by decide) ?_
        exact ar_state hlt hx hb hml hown ht hX hbl hL hZ hK hi (by omega) (by omega) hRW hP hD hS hl hback
      by_cases c10 : y9 = (10 : Int32)
      · refine lv_tableIn (tgt := 697) hx hb d_law_40 (by rw [c10]; decide) (by rw [c10]; decide) (by rw [c10]; rfl) (by decide) ?_
        exact ar_mode hlt hx hb hml hown ht hX hbl hL hZ hK hi (by omega) (by omega) hRW hP hD hS hl hback
      refine lv_tableOut (tgt := 801) hx hb d_law_40 (by have := lv_neT c0 (a := 0) (by decide); have := lv_neT c1 (a := 1) (by decide); have := lv_neT c2 (a := 2) (by decide); have := lv_neT c3 (a := 3) (by decide); have := lv_neT c4 (a := 4) (by decide); have := lv_neT c5 (a := 5) (by decide); have := lv_neT c6 (a := 6) (by decide); have := lv_neT c7 (a := 7) (by decide); have := lv_neT c8 (a := 8) (by decide); have := lv_neT c9 (a := 9) (by decide); have := lv_neT c10 (a := 10) (by decide); omega) (by decide) ?_
      refine W.widen (k := 19 + k + 1) (n := 1841 + 6 * k + 6) (by omega) (by omega) ?_
      exact hback st d ov H locs ls hRW hP hD hS hl
