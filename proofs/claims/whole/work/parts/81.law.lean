/-! the law's body -/
theorem zgOW {own : String} {idx n : Nat} {y : MethodName} {c : ByteArray} {r : Option FieldType} {hh : List (Nat × Nat × Nat × Nat)} (h1 : Cond.methodLink own idx y ∈ zT) (h2 : Cond.static y ∈ zT) (h4 : Cond.initialized y.cls ∈ zT) (h5 : Cond.codeWith y c n r hh ∈ zT) : GoodIn zT (va_wsS own idx y (.codeWith y c n r hh :: zT)) :=
  zg1 h1 (zg1 h2 (zg1 h4 (zg0 h5)))
section ZM
variable {p : Program} {l : Launch} {e : Env} {R : Room} {s : State} {m : MethodId} {args : Array Value} {below : List Frame} {meth : Method} {c : Code} {H : Heap} {locs : List Loc} {cells slots : Nat} {Q : State → Prop}
variable {pc : Nat} {ls : Array Slot} {D : va_G} {cl : List vw_C} {A : Nat → Prop} {w wc : va_W} {av : Array Value} {st0 rest : List Value} {mc ms : Nat}
theorem zc_iM {S : Type} {post : Int32 → S → Prop} {wn : S → va_W} (w2 : S → va_W)
    (hr : va_Run p l e R s m args below meth c H locs cells slots mc ms (F0 m pc ls st0) rest (va_Qi post (fun u t => zw_at D cl (va_A wc H.size) (wn u) t) (va_A wc H.size) av) (va_A wc H.size))
    (hP : va_P D cl w H) (hD : va_D A w) (hS : va_S A s.heap H locs) (hA : ∀ q, s.heap.size ≤ q → A q) (isC isR pm : List Nat) (hC : isC.map (fun i => w[i]?) = wc.map some)
    (hR : isR.map (fun i => w[i]?) = (isR.filterMap (fun i => w[i]?)).map some) (hn : va_nd isR = true) (hdis : ∀ i ∈ isR, i ∉ isC) (hpn : va_nd pm = true) (hpm : ∀ u, pm.map (fun i => (isR.filterMap (fun i => w[i]?) ++ wn u)[i]?) = (w2 u).map some)
    (kk : ∀ (r : Int32) (u : S) (H1 : Heap) (locs1 : List Loc), post r u → va_P D cl (w2 u) H1 → va_D A (w2 u) → va_S A s.heap H1 locs1 → W p l e R s m args below meth c H1 locs1 (cells + mc) (slots + ms) Q (F0 m (pc + 3) ls (.int r :: rest))) :
    W p l e R s m args below meth c H locs cells slots Q (F0 m pc ls st0) := by
  have hF := va_free (wc := wc) hD hS hA isC hC
  refine va_calli hr hS (fun q _ h => hF q h) hF (fun r u t H1 locs1 ht _ hw hB _ hk1 hS1 => ?_)
  obtain ⟨hP1, hD1⟩ := hB
  rw [ht] at hP1
  obtain ⟨hP2, hD2⟩ := zc_join hP hD hS hA isC isR pm hC hR hn hdis hpn hpm hk1 hP1 hD1
  exact kk r u H1 locs1 hw hP2 hD2 hS1
end ZM
/-- the class's world, the reference's, the law's array -/
def wZ (g1 : Nat → Nat) (k1 : Nat → ClassId) (g2 : Nat → Nat) (k2 : Nat → ClassId) (o : Nat) (co : ClassId) (st : SX) (d : SD) (ov : Nat → Int64) : va_W := wX g1 k1 st ++ (wD g2 k2 d ++ [(o, .inl (co, 1, .inr (.inl ov)))])
def tyZ (k1 k2 : Nat → ClassId) (co : ClassId) : List (ClassId × FieldType) := [(k1 0, .int), (k1 1, .int), (k1 2, .char), (k2 21, .long), (k2 22, .int), (k2 23, .int), (k2 24, .int), (k2 25, .int), (k2 26, .int), (k2 27, .int), (k2 28, .int), (co, .long)]
theorem fa_end {F : Int32 × Int32 × SX} {M : Int32 × SD} (h : FA F M) {r r2 r3 : Int32} {u : SX × (Nat → Int64)} {d2 : SD} (hw : r = F.1 ∧ u.1 = F.2.2 ∧ (F.1 = (0 : Int32) → u.2 0 = F.2.1.toInt64)) (hw2 : r2 = M.1 ∧ d2 = M.2) (hw3 : r3 = m_thrown d2) :
    r3 = r ∧ (r = (0 : Int32) → u.2 0 = r2.toInt64) ∧ RW u.1 d2 := by
  obtain ⟨a1, a2, a3⟩ := h
  obtain ⟨w1, w2, w3⟩ := hw
  obtain ⟨v1, v2⟩ := hw2
  refine ⟨?_, fun z => ?_, ?_⟩
  · rw [hw3, w1, a1, v2]; rfl
  · have z1 : F.1 = (0 : Int32) := by rw [← w1]; exact z
    rw [w3 z1, a2 z1, v1]
  · rw [w2, v2]; exact a3
theorem rw_okW {x : SX} {d : SD} (h : RW x d) : okW x.1 := by
  unfold okW
  rw [h.1.1.wi]
  exact h.1.1.win
theorem rw_okV {x : SX} {d : SD} (h : RW x d) : okV d := ⟨h.1.1.win, h.1.1.zs, h.1.1.zp⟩
theorem rw_lenD {x : SX} {d : SD} (h : RW x d) : 0 ≤ (d.1 1).toInt ∧ (d.1 1).toInt ≤ 40 := by
  obtain ⟨n, h1, h2, -⟩ := h.2.2.2.2
  rw [h2, nI_toInt (by omega)]
  omega
theorem rw_lenX {x : SX} {d : SD} (h : RW x d) : 0 ≤ (x.2.1 0).toInt ∧ (x.2.1 0).toInt ≤ 40 := by
  rw [h.2.1]
  exact rw_lenD h
theorem rm_00 : qRM (fun _ => (0 : Int32)) (fun _ => (0 : Int32)) := ⟨fun a _ b _ => by show bt 0 b = bt 0 _; rw [b_0, b_0], fun a _ b _ => b_0 b⟩
theorem rw_start : RW stX0 (m_reset stD9 (0 : Int32)) := by
  refine ⟨reset_rp (p := ((fun _ => (0 : Int32)), (fun _ => (0 : Int32)), (fun _ => (0 : Int32)), (fun _ => (0 : Int32)))) (d := stD9) rm_00 (0 : Int32), ?_⟩
  obtain ⟨gl, ou, lo, e, -, -⟩ := reset_eq stD9 (0 : Int32)
  rw [e]
  exact ⟨rfl, rfl, Or.inl rfl, 0, by omega, rfl, fun i hi => absurd hi (by omega)⟩
theorem ix_in {i k L : Nat} {v : Int32} (hv : v = nI k) (h : i + k < L) (hL : L ≤ 3072) : vp_in (nI i + v) L := by
  rw [hv, qnI_add]
  exact vp_in_nI h (by omega)
theorem hd_in {i L : Nat} (hL : L ≤ 3072) (hi : i ≤ 3078) (h : ¬ (Int32.ofNat L - (6 : Int32)) < nI i) : i + 6 ≤ L := by
  rcases Nat.lt_or_ge L (i + 6) with q | q
  · refine absurd ?_ h
    have e : (Int32.ofNat L - (6 : Int32)).toInt = (L : Int) - 6 := by
      rw [Int32.toInt_sub, show (Int32.ofNat L).toInt = (L : Int) from nI_toInt (n := L) (by omega), show (6 : Int32).toInt = 6 from by decide]
      exact Int.bmod_eq_of_le (by omega) (by omega)
    rw [Int32.lt_iff_toInt_lt, e, nI_toInt (by omega)]
    omega
  · exact q
theorem cmp_0 {x y : Int64} (h : x = y) : lg_cmp x y = (0 : Int32) := (lg_cmp_eq _ _).mpr h
theorem zw_190 : (Jvm.Cond.codeWith ({ cls := "WindowMachineLaw", name := "letters", desc := "(LWindowMachine;J[J)I" } : Jvm.MethodName) method_3_code (5 : Nat) (Option.some Jvm.ClassFile.FieldType.int) [((0 : Nat), (9 : Nat), (12 : Nat), (13 : Nat)), ((0 : Nat), (9 : Nat), (16 : Nat), (15 : Nat))]) ∈ zT := zT_in (List.mem_append_right _ (List.mem_append_left _ (List.mem_of_getElem? (i := 190) rfl))) (by decide)
theorem zw_297 : (Jvm.Cond.codeWith ({ cls := "WindowMachineLaw", name := "assemble", desc := "(LWindowMachine;I[J)I" } : Jvm.MethodName) method_4_code (4 : Nat) (Option.some Jvm.ClassFile.FieldType.int) [((0 : Nat), (9 : Nat), (12 : Nat), (13 : Nat)), ((0 : Nat), (9 : Nat), (15 : Nat), (15 : Nat))]) ∈ zT := zT_in (List.mem_append_right _ (List.mem_append_right _ (List.mem_append_left _ (List.mem_of_getElem? (i := 57) rfl)))) (by decide)
theorem zw_476 : (Jvm.Cond.codeWith ({ cls := "WindowMachineLaw", name := "put", desc := "(LWindowMachine;II[J)I" } : Jvm.MethodName) method_5_code (5 : Nat) (Option.some Jvm.ClassFile.FieldType.int) [((0 : Nat), (10 : Nat), (13 : Nat), (15 : Nat))]) ∈ zT := zT_in (List.mem_append_right _ (List.mem_append_right _ (List.mem_append_left _ (List.mem_of_getElem? (i := 236) rfl)))) (by decide)
theorem zw_487 : (Jvm.Cond.codeWith ({ cls := "WindowMachineLaw", name := "word", desc := "(LWindowMachine;I[J)I" } : Jvm.MethodName) method_6_code (4 : Nat) (Option.some Jvm.ClassFile.FieldType.int) [((0 : Nat), (9 : Nat), (12 : Nat), (15 : Nat))]) ∈ zT := zT_in (List.mem_append_right _ (List.mem_append_right _ (List.mem_append_right _ (List.mem_append_left _ (List.mem_of_getElem? (i := 7) rfl))))) (by decide)
theorem zw_494 : (Jvm.Cond.codeWith ({ cls := "WindowMachineLaw", name := "run", desc := "(LWindowMachine;I[J)I" } : Jvm.MethodName) method_7_code (4 : Nat) (Option.some Jvm.ClassFile.FieldType.int) [((0 : Nat), (9 : Nat), (12 : Nat), (13 : Nat)), ((0 : Nat), (9 : Nat), (15 : Nat), (31 : Nat))]) ∈ zT := zT_in (List.mem_append_right _ (List.mem_append_right _ (List.mem_append_right _ (List.mem_append_left _ (List.mem_of_getElem? (i := 14) rfl))))) (by decide)
theorem zw_706 : (Jvm.Cond.codeWith ({ cls := "WindowMachineLaw", name := "start", desc := "(LWindowMachine;I[J)I" } : Jvm.MethodName) method_8_code (4 : Nat) (Option.some Jvm.ClassFile.FieldType.int) [((0 : Nat), (9 : Nat), (12 : Nat), (13 : Nat))]) ∈ zT := zT_in (List.mem_append_right _ (List.mem_append_right _ (List.mem_append_right _ (List.mem_append_left _ (List.mem_of_getElem? (i := 226) rfl))))) (by decide)
theorem zw_714 : (Jvm.Cond.codeWith ({ cls := "WindowMachineLaw", name := "set", desc := "(LWindowMachine;III[J)I" } : Jvm.MethodName) method_9_code (6 : Nat) (Option.some Jvm.ClassFile.FieldType.int) [((0 : Nat), (12 : Nat), (15 : Nat), (13 : Nat))]) ∈ zT := zT_in (List.mem_append_right _ (List.mem_append_right _ (List.mem_append_right _ (List.mem_append_left _ (List.mem_of_getElem? (i := 234) rfl))))) (by decide)
theorem zw_727 : (Jvm.Cond.codeWith ({ cls := "WindowMachineLaw", name := "register", desc := "(LWindowMachine;II[J)I" } : Jvm.MethodName) method_10_code (5 : Nat) (Option.some Jvm.ClassFile.FieldType.int) [((0 : Nat), (10 : Nat), (13 : Nat), (13 : Nat))]) ∈ zT := zT_in (List.mem_append_right _ (List.mem_append_right _ (List.mem_append_right _ (List.mem_append_right _ (List.mem_append_left _ (List.mem_of_getElem? (i := 7) rfl)))))) (by decide)
theorem zw_734 : (Jvm.Cond.codeWith ({ cls := "WindowMachineLaw", name := "state", desc := "(LWindowMachine;I[J)I" } : Jvm.MethodName) method_11_code (4 : Nat) (Option.some Jvm.ClassFile.FieldType.int) [((0 : Nat), (9 : Nat), (12 : Nat), (13 : Nat))]) ∈ zT := zT_in (List.mem_append_right _ (List.mem_append_right _ (List.mem_append_right _ (List.mem_append_right _ (List.mem_append_left _ (List.mem_of_getElem? (i := 14) rfl)))))) (by decide)
theorem zw_746 : (Jvm.Cond.codeWith ({ cls := "WindowMachineLaw", name := "mode", desc := "(LWindowMachine;IIIII[J)I" } : Jvm.MethodName) method_12_code (8 : Nat) (Option.some Jvm.ClassFile.FieldType.int) [((0 : Nat), (16 : Nat), (19 : Nat), (13 : Nat))]) ∈ zT := zT_in (List.mem_append_right _ (List.mem_append_right _ (List.mem_append_right _ (List.mem_append_right _ (List.mem_append_left _ (List.mem_of_getElem? (i := 26) rfl)))))) (by decide)
theorem d_law_0 : decode code 0 = .ok (.new 8, 3) := by decide +kernel
theorem d_law_3 : decode code 3 = .ok (.dup, 1) := by decide +kernel
theorem d_law_4 : decode code 4 = .ok (.invokespecial 50, 3) := by decide +kernel
theorem d_law_7 : decode code 7 = .ok (.astore_n 1, 1) := by decide +kernel
theorem d_law_8 : decode code 8 = .ok (.new 51, 3) := by decide +kernel
theorem d_law_11 : decode code 11 = .ok (.dup, 1) := by decide +kernel
theorem d_law_12 : decode code 12 = .ok (.invokespecial 53, 3) := by decide +kernel
theorem d_law_15 : decode code 15 = .ok (.astore_n 2, 1) := by decide +kernel
theorem d_law_16 : decode code 16 = .ok (.iconst 1, 1) := by decide +kernel
theorem d_law_17 : decode code 17 = .ok (.newarray .long, 2) := by decide +kernel
theorem d_law_19 : decode code 19 = .ok (.astore_n 3, 1) := by decide +kernel
theorem d_law_20 : decode code 20 = .ok (.iconst 0, 1) := by decide +kernel
theorem d_law_21 : decode code 21 = .ok (.istore 4, 2) := by decide +kernel
theorem d_law_23 : decode code 23 = .ok (.iload 4, 2) := by decide +kernel
theorem d_law_25 : decode code 25 = .ok (.aload_n 0, 1) := by decide +kernel
theorem d_law_26 : decode code 26 = .ok (.arraylength, 1) := by decide +kernel
theorem d_law_27 : decode code 27 = .ok (.bipush 6, 2) := by decide +kernel
theorem d_law_29 : decode code 29 = .ok (.isub, 1) := by decide +kernel
theorem d_law_30 : decode code 30 = .ok (.if_icmp .gt 777, 3) := by decide +kernel
theorem d_law_33 : decode code 33 = .ok (.aload_n 0, 1) := by decide +kernel
theorem d_law_34 : decode code 34 = .ok (.iload 4, 2) := by decide +kernel
theorem d_law_36 : decode code 36 = .ok (.iaload, 1) := by decide +kernel
theorem d_law_37 : decode code 37 = .ok (.bipush 15, 2) := by decide +kernel
theorem d_law_39 : decode code 39 = .ok (.iand, 1) := by decide +kernel
theorem d_law_40 : decode code 40 = .ok (.tableswitch 761 0 10 #[60, 148, 204, 217, 285, 341, 397, 453, 533, 601, 657], 60) := by decide +kernel
theorem d_law_100 : decode code 100 = .ok (.aload_n 1, 1) := by decide +kernel
theorem d_law_101 : decode code 101 = .ok (.aload_n 0, 1) := by decide +kernel
theorem d_law_102 : decode code 102 = .ok (.iload 4, 2) := by decide +kernel
theorem d_law_104 : decode code 104 = .ok (.iconst 1, 1) := by decide +kernel
theorem d_law_105 : decode code 105 = .ok (.iadd, 1) := by decide +kernel
theorem d_law_106 : decode code 106 = .ok (.iaload, 1) := by decide +kernel
theorem d_law_107 : decode code 107 = .ok (.i2l, 1) := by decide +kernel
theorem d_law_108 : decode code 108 = .ok (.bipush 32, 2) := by decide +kernel
theorem d_law_110 : decode code 110 = .ok (.lshl, 1) := by decide +kernel
theorem d_law_111 : decode code 111 = .ok (.aload_n 0, 1) := by decide +kernel
theorem d_law_112 : decode code 112 = .ok (.iload 4, 2) := by decide +kernel
theorem d_law_114 : decode code 114 = .ok (.iconst 2, 1) := by decide +kernel
theorem d_law_115 : decode code 115 = .ok (.iadd, 1) := by decide +kernel
theorem d_law_116 : decode code 116 = .ok (.iaload, 1) := by decide +kernel
theorem d_law_117 : decode code 117 = .ok (.i2l, 1) := by decide +kernel
theorem d_law_118 : decode code 118 = .ok (.ldc2_w 54, 3) := by decide +kernel
theorem d_law_121 : decode code 121 = .ok (.land, 1) := by decide +kernel
theorem d_law_122 : decode code 122 = .ok (.lor, 1) := by decide +kernel
theorem d_law_123 : decode code 123 = .ok (.aload_n 3, 1) := by decide +kernel
theorem d_law_124 : decode code 124 = .ok (.invokestatic 56, 3) := by decide +kernel
theorem d_law_127 : decode code 127 = .ok (.istore 5, 2) := by decide +kernel
theorem d_law_129 : decode code 129 = .ok (.aload_n 2, 1) := by decide +kernel
theorem d_law_130 : decode code 130 = .ok (.aload_n 0, 1) := by decide +kernel
theorem d_law_131 : decode code 131 = .ok (.iload 4, 2) := by decide +kernel
theorem d_law_133 : decode code 133 = .ok (.iconst 1, 1) := by decide +kernel
theorem d_law_134 : decode code 134 = .ok (.iadd, 1) := by decide +kernel
theorem d_law_135 : decode code 135 = .ok (.iaload, 1) := by decide +kernel
theorem d_law_136 : decode code 136 = .ok (.i2l, 1) := by decide +kernel
theorem d_law_137 : decode code 137 = .ok (.bipush 32, 2) := by decide +kernel
theorem d_law_139 : decode code 139 = .ok (.lshl, 1) := by decide +kernel
theorem d_law_140 : decode code 140 = .ok (.aload_n 0, 1) := by decide +kernel
theorem d_law_141 : decode code 141 = .ok (.iload 4, 2) := by decide +kernel
theorem d_law_143 : decode code 143 = .ok (.iconst 2, 1) := by decide +kernel
theorem d_law_144 : decode code 144 = .ok (.iadd, 1) := by decide +kernel
theorem d_law_145 : decode code 145 = .ok (.iaload, 1) := by decide +kernel
theorem d_law_146 : decode code 146 = .ok (.i2l, 1) := by decide +kernel
theorem d_law_147 : decode code 147 = .ok (.ldc2_w 54, 3) := by decide +kernel
theorem d_law_150 : decode code 150 = .ok (.land, 1) := by decide +kernel
theorem d_law_151 : decode code 151 = .ok (.lor, 1) := by decide +kernel
theorem d_law_152 : decode code 152 = .ok (.invokevirtual 61, 3) := by decide +kernel
theorem d_law_155 : decode code 155 = .ok (.istore 6, 2) := by decide +kernel
theorem d_law_157 : decode code 157 = .ok (.aload_n 2, 1) := by decide +kernel
theorem d_law_158 : decode code 158 = .ok (.invokevirtual 62, 3) := by decide +kernel
theorem d_law_161 : decode code 161 = .ok (.iload 5, 2) := by decide +kernel
theorem d_law_163 : decode code 163 = .ok (.if_icmp .eq 5, 3) := by decide +kernel
theorem d_law_166 : decode code 166 = .ok (.iconst 0, 1) := by decide +kernel
theorem d_law_167 : decode code 167 = .ok (.ireturn, 1) := by decide +kernel
theorem d_law_168 : decode code 168 = .ok (.iload 5, 2) := by decide +kernel
theorem d_law_170 : decode code 170 = .ok (.ifCond .ne 15, 3) := by decide +kernel
theorem d_law_173 : decode code 173 = .ok (.aload_n 3, 1) := by decide +kernel
theorem d_law_174 : decode code 174 = .ok (.iconst 0, 1) := by decide +kernel
theorem d_law_175 : decode code 175 = .ok (.laload, 1) := by decide +kernel
theorem d_law_176 : decode code 176 = .ok (.iload 6, 2) := by decide +kernel
theorem d_law_178 : decode code 178 = .ok (.i2l, 1) := by decide +kernel
theorem d_law_179 : decode code 179 = .ok (.lcmp, 1) := by decide +kernel
theorem d_law_180 : decode code 180 = .ok (.ifCond .eq 5, 3) := by decide +kernel
theorem d_law_183 : decode code 183 = .ok (.iconst 0, 1) := by decide +kernel
theorem d_law_184 : decode code 184 = .ok (.ireturn, 1) := by decide +kernel
theorem d_law_185 : decode code 185 = .ok (.goto 616, 3) := by decide +kernel
theorem d_law_188 : decode code 188 = .ok (.aload_n 1, 1) := by decide +kernel
theorem d_law_189 : decode code 189 = .ok (.aload_n 0, 1) := by decide +kernel
theorem d_law_190 : decode code 190 = .ok (.iload 4, 2) := by decide +kernel
theorem d_law_192 : decode code 192 = .ok (.iconst 1, 1) := by decide +kernel
theorem d_law_193 : decode code 193 = .ok (.iadd, 1) := by decide +kernel
theorem d_law_194 : decode code 194 = .ok (.iaload, 1) := by decide +kernel
theorem d_law_195 : decode code 195 = .ok (.aload_n 3, 1) := by decide +kernel
theorem d_law_196 : decode code 196 = .ok (.invokestatic 66, 3) := by decide +kernel
theorem d_law_199 : decode code 199 = .ok (.istore 5, 2) := by decide +kernel
theorem d_law_201 : decode code 201 = .ok (.aload_n 2, 1) := by decide +kernel
theorem d_law_202 : decode code 202 = .ok (.aload_n 0, 1) := by decide +kernel
theorem d_law_203 : decode code 203 = .ok (.iload 4, 2) := by decide +kernel
theorem d_law_205 : decode code 205 = .ok (.iconst 1, 1) := by decide +kernel
theorem d_law_206 : decode code 206 = .ok (.iadd, 1) := by decide +kernel
theorem d_law_207 : decode code 207 = .ok (.iaload, 1) := by decide +kernel
theorem d_law_208 : decode code 208 = .ok (.invokevirtual 69, 3) := by decide +kernel
theorem d_law_211 : decode code 211 = .ok (.istore 6, 2) := by decide +kernel
theorem d_law_213 : decode code 213 = .ok (.aload_n 2, 1) := by decide +kernel
theorem d_law_214 : decode code 214 = .ok (.invokevirtual 62, 3) := by decide +kernel
theorem d_law_217 : decode code 217 = .ok (.iload 5, 2) := by decide +kernel
theorem d_law_219 : decode code 219 = .ok (.if_icmp .eq 5, 3) := by decide +kernel
theorem d_law_222 : decode code 222 = .ok (.iconst 0, 1) := by decide +kernel
theorem d_law_223 : decode code 223 = .ok (.ireturn, 1) := by decide +kernel
theorem d_law_224 : decode code 224 = .ok (.iload 5, 2) := by decide +kernel
theorem d_law_226 : decode code 226 = .ok (.ifCond .ne 15, 3) := by decide +kernel
theorem d_law_229 : decode code 229 = .ok (.aload_n 3, 1) := by decide +kernel
theorem d_law_230 : decode code 230 = .ok (.iconst 0, 1) := by decide +kernel
theorem d_law_231 : decode code 231 = .ok (.laload, 1) := by decide +kernel
theorem d_law_232 : decode code 232 = .ok (.iload 6, 2) := by decide +kernel
theorem d_law_234 : decode code 234 = .ok (.i2l, 1) := by decide +kernel
theorem d_law_235 : decode code 235 = .ok (.lcmp, 1) := by decide +kernel
theorem d_law_236 : decode code 236 = .ok (.ifCond .eq 5, 3) := by decide +kernel
theorem d_law_239 : decode code 239 = .ok (.iconst 0, 1) := by decide +kernel
theorem d_law_240 : decode code 240 = .ok (.ireturn, 1) := by decide +kernel
theorem d_law_241 : decode code 241 = .ok (.goto 560, 3) := by decide +kernel
theorem d_law_244 : decode code 244 = .ok (.aload_n 1, 1) := by decide +kernel
theorem d_law_245 : decode code 245 = .ok (.invokevirtual 70, 3) := by decide +kernel
theorem d_law_248 : decode code 248 = .ok (.aload_n 2, 1) := by decide +kernel
theorem d_law_249 : decode code 249 = .ok (.invokevirtual 73, 3) := by decide +kernel
theorem d_law_252 : decode code 252 = .ok (.if_icmp .eq 549, 3) := by decide +kernel
theorem d_law_255 : decode code 255 = .ok (.iconst 0, 1) := by decide +kernel
theorem d_law_256 : decode code 256 = .ok (.ireturn, 1) := by decide +kernel
theorem d_law_257 : decode code 257 = .ok (.aload_n 1, 1) := by decide +kernel
theorem d_law_258 : decode code 258 = .ok (.aload_n 0, 1) := by decide +kernel
theorem d_law_259 : decode code 259 = .ok (.iload 4, 2) := by decide +kernel
theorem d_law_261 : decode code 261 = .ok (.iconst 1, 1) := by decide +kernel
theorem d_law_262 : decode code 262 = .ok (.iadd, 1) := by decide +kernel
theorem d_law_263 : decode code 263 = .ok (.iaload, 1) := by decide +kernel
theorem d_law_264 : decode code 264 = .ok (.aload_n 0, 1) := by decide +kernel
theorem d_law_265 : decode code 265 = .ok (.iload 4, 2) := by decide +kernel
theorem d_law_267 : decode code 267 = .ok (.iconst 2, 1) := by decide +kernel
theorem d_law_268 : decode code 268 = .ok (.iadd, 1) := by decide +kernel
theorem d_law_269 : decode code 269 = .ok (.iaload, 1) := by decide +kernel
theorem d_law_270 : decode code 270 = .ok (.aload_n 3, 1) := by decide +kernel
theorem d_law_271 : decode code 271 = .ok (.invokestatic 74, 3) := by decide +kernel
theorem d_law_274 : decode code 274 = .ok (.istore 5, 2) := by decide +kernel
theorem d_law_276 : decode code 276 = .ok (.aload_n 2, 1) := by decide +kernel
theorem d_law_277 : decode code 277 = .ok (.aload_n 0, 1) := by decide +kernel
theorem d_law_278 : decode code 278 = .ok (.iload 4, 2) := by decide +kernel
theorem d_law_280 : decode code 280 = .ok (.iconst 1, 1) := by decide +kernel
theorem d_law_281 : decode code 281 = .ok (.iadd, 1) := by decide +kernel
theorem d_law_282 : decode code 282 = .ok (.iaload, 1) := by decide +kernel
theorem d_law_283 : decode code 283 = .ok (.aload_n 0, 1) := by decide +kernel
theorem d_law_284 : decode code 284 = .ok (.iload 4, 2) := by decide +kernel
theorem d_law_286 : decode code 286 = .ok (.iconst 2, 1) := by decide +kernel
theorem d_law_287 : decode code 287 = .ok (.iadd, 1) := by decide +kernel
theorem d_law_288 : decode code 288 = .ok (.iaload, 1) := by decide +kernel
theorem d_law_289 : decode code 289 = .ok (.invokevirtual 77, 3) := by decide +kernel
theorem d_law_292 : decode code 292 = .ok (.istore 6, 2) := by decide +kernel
theorem d_law_294 : decode code 294 = .ok (.aload_n 2, 1) := by decide +kernel
theorem d_law_295 : decode code 295 = .ok (.invokevirtual 62, 3) := by decide +kernel
theorem d_law_298 : decode code 298 = .ok (.iload 5, 2) := by decide +kernel
theorem d_law_300 : decode code 300 = .ok (.if_icmp .eq 5, 3) := by decide +kernel
theorem d_law_303 : decode code 303 = .ok (.iconst 0, 1) := by decide +kernel
theorem d_law_304 : decode code 304 = .ok (.ireturn, 1) := by decide +kernel
theorem d_law_305 : decode code 305 = .ok (.iload 5, 2) := by decide +kernel
theorem d_law_307 : decode code 307 = .ok (.ifCond .ne 15, 3) := by decide +kernel
theorem d_law_310 : decode code 310 = .ok (.aload_n 3, 1) := by decide +kernel
theorem d_law_311 : decode code 311 = .ok (.iconst 0, 1) := by decide +kernel
theorem d_law_312 : decode code 312 = .ok (.laload, 1) := by decide +kernel
theorem d_law_313 : decode code 313 = .ok (.iload 6, 2) := by decide +kernel
theorem d_law_315 : decode code 315 = .ok (.i2l, 1) := by decide +kernel
theorem d_law_316 : decode code 316 = .ok (.lcmp, 1) := by decide +kernel
theorem d_law_317 : decode code 317 = .ok (.ifCond .eq 5, 3) := by decide +kernel
theorem d_law_320 : decode code 320 = .ok (.iconst 0, 1) := by decide +kernel
theorem d_law_321 : decode code 321 = .ok (.ireturn, 1) := by decide +kernel
theorem d_law_322 : decode code 322 = .ok (.goto 479, 3) := by decide +kernel
theorem d_law_325 : decode code 325 = .ok (.aload_n 1, 1) := by decide +kernel
theorem d_law_326 : decode code 326 = .ok (.aload_n 0, 1) := by decide +kernel
theorem d_law_327 : decode code 327 = .ok (.iload 4, 2) := by decide +kernel
theorem d_law_329 : decode code 329 = .ok (.iconst 1, 1) := by decide +kernel
theorem d_law_330 : decode code 330 = .ok (.iadd, 1) := by decide +kernel
theorem d_law_331 : decode code 331 = .ok (.iaload, 1) := by decide +kernel
theorem d_law_332 : decode code 332 = .ok (.aload_n 3, 1) := by decide +kernel
theorem d_law_333 : decode code 333 = .ok (.invokestatic 78, 3) := by decide +kernel
theorem d_law_336 : decode code 336 = .ok (.istore 5, 2) := by decide +kernel
theorem d_law_338 : decode code 338 = .ok (.aload_n 2, 1) := by decide +kernel
theorem d_law_339 : decode code 339 = .ok (.aload_n 0, 1) := by decide +kernel
theorem d_law_340 : decode code 340 = .ok (.iload 4, 2) := by decide +kernel
theorem d_law_342 : decode code 342 = .ok (.iconst 1, 1) := by decide +kernel
theorem d_law_343 : decode code 343 = .ok (.iadd, 1) := by decide +kernel
theorem d_law_344 : decode code 344 = .ok (.iaload, 1) := by decide +kernel
theorem d_law_345 : decode code 345 = .ok (.invokevirtual 80, 3) := by decide +kernel
theorem d_law_348 : decode code 348 = .ok (.istore 6, 2) := by decide +kernel
theorem d_law_350 : decode code 350 = .ok (.aload_n 2, 1) := by decide +kernel
theorem d_law_351 : decode code 351 = .ok (.invokevirtual 62, 3) := by decide +kernel
theorem d_law_354 : decode code 354 = .ok (.iload 5, 2) := by decide +kernel
theorem d_law_356 : decode code 356 = .ok (.if_icmp .eq 5, 3) := by decide +kernel
theorem d_law_359 : decode code 359 = .ok (.iconst 0, 1) := by decide +kernel
theorem d_law_360 : decode code 360 = .ok (.ireturn, 1) := by decide +kernel
theorem d_law_361 : decode code 361 = .ok (.iload 5, 2) := by decide +kernel
theorem d_law_363 : decode code 363 = .ok (.ifCond .ne 15, 3) := by decide +kernel
theorem d_law_366 : decode code 366 = .ok (.aload_n 3, 1) := by decide +kernel
theorem d_law_367 : decode code 367 = .ok (.iconst 0, 1) := by decide +kernel
theorem d_law_368 : decode code 368 = .ok (.laload, 1) := by decide +kernel
theorem d_law_369 : decode code 369 = .ok (.iload 6, 2) := by decide +kernel
theorem d_law_371 : decode code 371 = .ok (.i2l, 1) := by decide +kernel
theorem d_law_372 : decode code 372 = .ok (.lcmp, 1) := by decide +kernel
theorem d_law_373 : decode code 373 = .ok (.ifCond .eq 5, 3) := by decide +kernel
theorem d_law_376 : decode code 376 = .ok (.iconst 0, 1) := by decide +kernel
theorem d_law_377 : decode code 377 = .ok (.ireturn, 1) := by decide +kernel
theorem d_law_378 : decode code 378 = .ok (.goto 423, 3) := by decide +kernel
theorem d_law_381 : decode code 381 = .ok (.aload_n 1, 1) := by decide +kernel
theorem d_law_382 : decode code 382 = .ok (.aload_n 0, 1) := by decide +kernel
theorem d_law_383 : decode code 383 = .ok (.iload 4, 2) := by decide +kernel
theorem d_law_385 : decode code 385 = .ok (.iconst 1, 1) := by decide +kernel
theorem d_law_386 : decode code 386 = .ok (.iadd, 1) := by decide +kernel
theorem d_law_387 : decode code 387 = .ok (.iaload, 1) := by decide +kernel
theorem d_law_388 : decode code 388 = .ok (.aload_n 3, 1) := by decide +kernel
theorem d_law_389 : decode code 389 = .ok (.invokestatic 81, 3) := by decide +kernel
theorem d_law_392 : decode code 392 = .ok (.istore 5, 2) := by decide +kernel
theorem d_law_394 : decode code 394 = .ok (.aload_n 2, 1) := by decide +kernel
theorem d_law_395 : decode code 395 = .ok (.aload_n 0, 1) := by decide +kernel
theorem d_law_396 : decode code 396 = .ok (.iload 4, 2) := by decide +kernel
theorem d_law_398 : decode code 398 = .ok (.iconst 1, 1) := by decide +kernel
theorem d_law_399 : decode code 399 = .ok (.iadd, 1) := by decide +kernel
theorem d_law_400 : decode code 400 = .ok (.iaload, 1) := by decide +kernel
theorem d_law_401 : decode code 401 = .ok (.invokevirtual 83, 3) := by decide +kernel
theorem d_law_404 : decode code 404 = .ok (.istore 6, 2) := by decide +kernel
theorem d_law_406 : decode code 406 = .ok (.aload_n 2, 1) := by decide +kernel
theorem d_law_407 : decode code 407 = .ok (.invokevirtual 62, 3) := by decide +kernel
theorem d_law_410 : decode code 410 = .ok (.iload 5, 2) := by decide +kernel
theorem d_law_412 : decode code 412 = .ok (.if_icmp .eq 5, 3) := by decide +kernel
theorem d_law_415 : decode code 415 = .ok (.iconst 0, 1) := by decide +kernel
theorem d_law_416 : decode code 416 = .ok (.ireturn, 1) := by decide +kernel
theorem d_law_417 : decode code 417 = .ok (.iload 5, 2) := by decide +kernel
theorem d_law_419 : decode code 419 = .ok (.ifCond .ne 15, 3) := by decide +kernel
theorem d_law_422 : decode code 422 = .ok (.aload_n 3, 1) := by decide +kernel
theorem d_law_423 : decode code 423 = .ok (.iconst 0, 1) := by decide +kernel
theorem d_law_424 : decode code 424 = .ok (.laload, 1) := by decide +kernel
theorem d_law_425 : decode code 425 = .ok (.iload 6, 2) := by decide +kernel
theorem d_law_427 : decode code 427 = .ok (.i2l, 1) := by decide +kernel
theorem d_law_428 : decode code 428 = .ok (.lcmp, 1) := by decide +kernel
theorem d_law_429 : decode code 429 = .ok (.ifCond .eq 5, 3) := by decide +kernel
theorem d_law_432 : decode code 432 = .ok (.iconst 0, 1) := by decide +kernel
theorem d_law_433 : decode code 433 = .ok (.ireturn, 1) := by decide +kernel
theorem d_law_434 : decode code 434 = .ok (.goto 367, 3) := by decide +kernel
theorem d_law_437 : decode code 437 = .ok (.aload_n 1, 1) := by decide +kernel
theorem d_law_438 : decode code 438 = .ok (.aload_n 0, 1) := by decide +kernel
theorem d_law_439 : decode code 439 = .ok (.iload 4, 2) := by decide +kernel
theorem d_law_441 : decode code 441 = .ok (.iconst 1, 1) := by decide +kernel
theorem d_law_442 : decode code 442 = .ok (.iadd, 1) := by decide +kernel
theorem d_law_443 : decode code 443 = .ok (.iaload, 1) := by decide +kernel
theorem d_law_444 : decode code 444 = .ok (.aload_n 3, 1) := by decide +kernel
theorem d_law_445 : decode code 445 = .ok (.invokestatic 84, 3) := by decide +kernel
theorem d_law_448 : decode code 448 = .ok (.istore 5, 2) := by decide +kernel
theorem d_law_450 : decode code 450 = .ok (.aload_n 2, 1) := by decide +kernel
theorem d_law_451 : decode code 451 = .ok (.aload_n 0, 1) := by decide +kernel
theorem d_law_452 : decode code 452 = .ok (.iload 4, 2) := by decide +kernel
theorem d_law_454 : decode code 454 = .ok (.iconst 1, 1) := by decide +kernel
theorem d_law_455 : decode code 455 = .ok (.iadd, 1) := by decide +kernel
theorem d_law_456 : decode code 456 = .ok (.iaload, 1) := by decide +kernel
theorem d_law_457 : decode code 457 = .ok (.invokevirtual 86, 3) := by decide +kernel
theorem d_law_460 : decode code 460 = .ok (.istore 6, 2) := by decide +kernel
theorem d_law_462 : decode code 462 = .ok (.aload_n 2, 1) := by decide +kernel
theorem d_law_463 : decode code 463 = .ok (.invokevirtual 62, 3) := by decide +kernel
theorem d_law_466 : decode code 466 = .ok (.iload 5, 2) := by decide +kernel
theorem d_law_468 : decode code 468 = .ok (.if_icmp .eq 5, 3) := by decide +kernel
theorem d_law_471 : decode code 471 = .ok (.iconst 0, 1) := by decide +kernel
theorem d_law_472 : decode code 472 = .ok (.ireturn, 1) := by decide +kernel
theorem d_law_473 : decode code 473 = .ok (.iload 5, 2) := by decide +kernel
theorem d_law_475 : decode code 475 = .ok (.ifCond .ne 15, 3) := by decide +kernel
theorem d_law_478 : decode code 478 = .ok (.aload_n 3, 1) := by decide +kernel
theorem d_law_479 : decode code 479 = .ok (.iconst 0, 1) := by decide +kernel
theorem d_law_480 : decode code 480 = .ok (.laload, 1) := by decide +kernel
theorem d_law_481 : decode code 481 = .ok (.iload 6, 2) := by decide +kernel
theorem d_law_483 : decode code 483 = .ok (.i2l, 1) := by decide +kernel
theorem d_law_484 : decode code 484 = .ok (.lcmp, 1) := by decide +kernel
theorem d_law_485 : decode code 485 = .ok (.ifCond .eq 5, 3) := by decide +kernel
theorem d_law_488 : decode code 488 = .ok (.iconst 0, 1) := by decide +kernel
theorem d_law_489 : decode code 489 = .ok (.ireturn, 1) := by decide +kernel
theorem d_law_490 : decode code 490 = .ok (.goto 311, 3) := by decide +kernel
theorem d_law_493 : decode code 493 = .ok (.aload_n 1, 1) := by decide +kernel
theorem d_law_494 : decode code 494 = .ok (.aload_n 0, 1) := by decide +kernel
theorem d_law_495 : decode code 495 = .ok (.iload 4, 2) := by decide +kernel
theorem d_law_497 : decode code 497 = .ok (.iconst 1, 1) := by decide +kernel
theorem d_law_498 : decode code 498 = .ok (.iadd, 1) := by decide +kernel
theorem d_law_499 : decode code 499 = .ok (.iaload, 1) := by decide +kernel
theorem d_law_500 : decode code 500 = .ok (.aload_n 0, 1) := by decide +kernel
theorem d_law_501 : decode code 501 = .ok (.iload 4, 2) := by decide +kernel
theorem d_law_503 : decode code 503 = .ok (.iconst 2, 1) := by decide +kernel
theorem d_law_504 : decode code 504 = .ok (.iadd, 1) := by decide +kernel
theorem d_law_505 : decode code 505 = .ok (.iaload, 1) := by decide +kernel
theorem d_law_506 : decode code 506 = .ok (.aload_n 0, 1) := by decide +kernel
theorem d_law_507 : decode code 507 = .ok (.iload 4, 2) := by decide +kernel
theorem d_law_509 : decode code 509 = .ok (.iconst 3, 1) := by decide +kernel
theorem d_law_510 : decode code 510 = .ok (.iadd, 1) := by decide +kernel
theorem d_law_511 : decode code 511 = .ok (.iaload, 1) := by decide +kernel
theorem d_law_512 : decode code 512 = .ok (.aload_n 3, 1) := by decide +kernel
theorem d_law_513 : decode code 513 = .ok (.invokestatic 87, 3) := by decide +kernel
theorem d_law_516 : decode code 516 = .ok (.istore 5, 2) := by decide +kernel
theorem d_law_518 : decode code 518 = .ok (.aload_n 2, 1) := by decide +kernel
theorem d_law_519 : decode code 519 = .ok (.aload_n 0, 1) := by decide +kernel
theorem d_law_520 : decode code 520 = .ok (.iload 4, 2) := by decide +kernel
theorem d_law_522 : decode code 522 = .ok (.iconst 1, 1) := by decide +kernel
theorem d_law_523 : decode code 523 = .ok (.iadd, 1) := by decide +kernel
theorem d_law_524 : decode code 524 = .ok (.iaload, 1) := by decide +kernel
theorem d_law_525 : decode code 525 = .ok (.aload_n 0, 1) := by decide +kernel
theorem d_law_526 : decode code 526 = .ok (.iload 4, 2) := by decide +kernel
theorem d_law_528 : decode code 528 = .ok (.iconst 2, 1) := by decide +kernel
theorem d_law_529 : decode code 529 = .ok (.iadd, 1) := by decide +kernel
theorem d_law_530 : decode code 530 = .ok (.iaload, 1) := by decide +kernel
theorem d_law_531 : decode code 531 = .ok (.aload_n 0, 1) := by decide +kernel
theorem d_law_532 : decode code 532 = .ok (.iload 4, 2) := by decide +kernel
theorem d_law_534 : decode code 534 = .ok (.iconst 3, 1) := by decide +kernel
theorem d_law_535 : decode code 535 = .ok (.iadd, 1) := by decide +kernel
theorem d_law_536 : decode code 536 = .ok (.iaload, 1) := by decide +kernel
theorem d_law_537 : decode code 537 = .ok (.invokevirtual 90, 3) := by decide +kernel
theorem d_law_540 : decode code 540 = .ok (.istore 6, 2) := by decide +kernel
theorem d_law_542 : decode code 542 = .ok (.aload_n 2, 1) := by decide +kernel
theorem d_law_543 : decode code 543 = .ok (.invokevirtual 62, 3) := by decide +kernel
theorem d_law_546 : decode code 546 = .ok (.iload 5, 2) := by decide +kernel
theorem d_law_548 : decode code 548 = .ok (.if_icmp .eq 5, 3) := by decide +kernel
theorem d_law_551 : decode code 551 = .ok (.iconst 0, 1) := by decide +kernel
theorem d_law_552 : decode code 552 = .ok (.ireturn, 1) := by decide +kernel
theorem d_law_553 : decode code 553 = .ok (.iload 5, 2) := by decide +kernel
theorem d_law_555 : decode code 555 = .ok (.ifCond .ne 15, 3) := by decide +kernel
theorem d_law_558 : decode code 558 = .ok (.aload_n 3, 1) := by decide +kernel
theorem d_law_559 : decode code 559 = .ok (.iconst 0, 1) := by decide +kernel
theorem d_law_560 : decode code 560 = .ok (.laload, 1) := by decide +kernel
theorem d_law_561 : decode code 561 = .ok (.iload 6, 2) := by decide +kernel
theorem d_law_563 : decode code 563 = .ok (.i2l, 1) := by decide +kernel
theorem d_law_564 : decode code 564 = .ok (.lcmp, 1) := by decide +kernel
theorem d_law_565 : decode code 565 = .ok (.ifCond .eq 5, 3) := by decide +kernel
theorem d_law_568 : decode code 568 = .ok (.iconst 0, 1) := by decide +kernel
theorem d_law_569 : decode code 569 = .ok (.ireturn, 1) := by decide +kernel
theorem d_law_570 : decode code 570 = .ok (.goto 231, 3) := by decide +kernel
theorem d_law_573 : decode code 573 = .ok (.aload_n 1, 1) := by decide +kernel
theorem d_law_574 : decode code 574 = .ok (.aload_n 0, 1) := by decide +kernel
theorem d_law_575 : decode code 575 = .ok (.iload 4, 2) := by decide +kernel
theorem d_law_577 : decode code 577 = .ok (.iconst 1, 1) := by decide +kernel
theorem d_law_578 : decode code 578 = .ok (.iadd, 1) := by decide +kernel
theorem d_law_579 : decode code 579 = .ok (.iaload, 1) := by decide +kernel
theorem d_law_580 : decode code 580 = .ok (.aload_n 0, 1) := by decide +kernel
theorem d_law_581 : decode code 581 = .ok (.iload 4, 2) := by decide +kernel
theorem d_law_583 : decode code 583 = .ok (.iconst 2, 1) := by decide +kernel
theorem d_law_584 : decode code 584 = .ok (.iadd, 1) := by decide +kernel
theorem d_law_585 : decode code 585 = .ok (.iaload, 1) := by decide +kernel
theorem d_law_586 : decode code 586 = .ok (.aload_n 3, 1) := by decide +kernel
theorem d_law_587 : decode code 587 = .ok (.invokestatic 91, 3) := by decide +kernel
theorem d_law_590 : decode code 590 = .ok (.istore 5, 2) := by decide +kernel
theorem d_law_592 : decode code 592 = .ok (.aload_n 2, 1) := by decide +kernel
theorem d_law_593 : decode code 593 = .ok (.aload_n 0, 1) := by decide +kernel
theorem d_law_594 : decode code 594 = .ok (.iload 4, 2) := by decide +kernel
theorem d_law_596 : decode code 596 = .ok (.iconst 1, 1) := by decide +kernel
theorem d_law_597 : decode code 597 = .ok (.iadd, 1) := by decide +kernel
theorem d_law_598 : decode code 598 = .ok (.iaload, 1) := by decide +kernel
theorem d_law_599 : decode code 599 = .ok (.aload_n 0, 1) := by decide +kernel
theorem d_law_600 : decode code 600 = .ok (.iload 4, 2) := by decide +kernel
theorem d_law_602 : decode code 602 = .ok (.iconst 2, 1) := by decide +kernel
theorem d_law_603 : decode code 603 = .ok (.iadd, 1) := by decide +kernel
theorem d_law_604 : decode code 604 = .ok (.iaload, 1) := by decide +kernel
theorem d_law_605 : decode code 605 = .ok (.invokevirtual 93, 3) := by decide +kernel
theorem d_law_608 : decode code 608 = .ok (.istore 6, 2) := by decide +kernel
theorem d_law_610 : decode code 610 = .ok (.aload_n 2, 1) := by decide +kernel
theorem d_law_611 : decode code 611 = .ok (.invokevirtual 62, 3) := by decide +kernel
theorem d_law_614 : decode code 614 = .ok (.iload 5, 2) := by decide +kernel
theorem d_law_616 : decode code 616 = .ok (.if_icmp .eq 5, 3) := by decide +kernel
theorem d_law_619 : decode code 619 = .ok (.iconst 0, 1) := by decide +kernel
theorem d_law_620 : decode code 620 = .ok (.ireturn, 1) := by decide +kernel
theorem d_law_621 : decode code 621 = .ok (.iload 5, 2) := by decide +kernel
theorem d_law_623 : decode code 623 = .ok (.ifCond .ne 15, 3) := by decide +kernel
theorem d_law_626 : decode code 626 = .ok (.aload_n 3, 1) := by decide +kernel
theorem d_law_627 : decode code 627 = .ok (.iconst 0, 1) := by decide +kernel
theorem d_law_628 : decode code 628 = .ok (.laload, 1) := by decide +kernel
theorem d_law_629 : decode code 629 = .ok (.iload 6, 2) := by decide +kernel
theorem d_law_631 : decode code 631 = .ok (.i2l, 1) := by decide +kernel
theorem d_law_632 : decode code 632 = .ok (.lcmp, 1) := by decide +kernel
theorem d_law_633 : decode code 633 = .ok (.ifCond .eq 5, 3) := by decide +kernel
theorem d_law_636 : decode code 636 = .ok (.iconst 0, 1) := by decide +kernel
theorem d_law_637 : decode code 637 = .ok (.ireturn, 1) := by decide +kernel
theorem d_law_638 : decode code 638 = .ok (.goto 163, 3) := by decide +kernel
theorem d_law_641 : decode code 641 = .ok (.aload_n 1, 1) := by decide +kernel
theorem d_law_642 : decode code 642 = .ok (.aload_n 0, 1) := by decide +kernel
theorem d_law_643 : decode code 643 = .ok (.iload 4, 2) := by decide +kernel
theorem d_law_645 : decode code 645 = .ok (.iconst 1, 1) := by decide +kernel
theorem d_law_646 : decode code 646 = .ok (.iadd, 1) := by decide +kernel
theorem d_law_647 : decode code 647 = .ok (.iaload, 1) := by decide +kernel
theorem d_law_648 : decode code 648 = .ok (.aload_n 3, 1) := by decide +kernel
theorem d_law_649 : decode code 649 = .ok (.invokestatic 94, 3) := by decide +kernel
theorem d_law_652 : decode code 652 = .ok (.istore 5, 2) := by decide +kernel
theorem d_law_654 : decode code 654 = .ok (.aload_n 2, 1) := by decide +kernel
theorem d_law_655 : decode code 655 = .ok (.aload_n 0, 1) := by decide +kernel
theorem d_law_656 : decode code 656 = .ok (.iload 4, 2) := by decide +kernel
theorem d_law_658 : decode code 658 = .ok (.iconst 1, 1) := by decide +kernel
theorem d_law_659 : decode code 659 = .ok (.iadd, 1) := by decide +kernel
theorem d_law_660 : decode code 660 = .ok (.iaload, 1) := by decide +kernel
theorem d_law_661 : decode code 661 = .ok (.invokevirtual 96, 3) := by decide +kernel
theorem d_law_664 : decode code 664 = .ok (.istore 6, 2) := by decide +kernel
theorem d_law_666 : decode code 666 = .ok (.aload_n 2, 1) := by decide +kernel
theorem d_law_667 : decode code 667 = .ok (.invokevirtual 62, 3) := by decide +kernel
theorem d_law_670 : decode code 670 = .ok (.iload 5, 2) := by decide +kernel
theorem d_law_672 : decode code 672 = .ok (.if_icmp .eq 5, 3) := by decide +kernel
theorem d_law_675 : decode code 675 = .ok (.iconst 0, 1) := by decide +kernel
theorem d_law_676 : decode code 676 = .ok (.ireturn, 1) := by decide +kernel
theorem d_law_677 : decode code 677 = .ok (.iload 5, 2) := by decide +kernel
theorem d_law_679 : decode code 679 = .ok (.ifCond .ne 15, 3) := by decide +kernel
theorem d_law_682 : decode code 682 = .ok (.aload_n 3, 1) := by decide +kernel
theorem d_law_683 : decode code 683 = .ok (.iconst 0, 1) := by decide +kernel
theorem d_law_684 : decode code 684 = .ok (.laload, 1) := by decide +kernel
theorem d_law_685 : decode code 685 = .ok (.iload 6, 2) := by decide +kernel
theorem d_law_687 : decode code 687 = .ok (.i2l, 1) := by decide +kernel
theorem d_law_688 : decode code 688 = .ok (.lcmp, 1) := by decide +kernel
theorem d_law_689 : decode code 689 = .ok (.ifCond .eq 5, 3) := by decide +kernel
theorem d_law_692 : decode code 692 = .ok (.iconst 0, 1) := by decide +kernel
theorem d_law_693 : decode code 693 = .ok (.ireturn, 1) := by decide +kernel
theorem d_law_694 : decode code 694 = .ok (.goto 107, 3) := by decide +kernel
theorem d_law_697 : decode code 697 = .ok (.aload_n 1, 1) := by decide +kernel
theorem d_law_698 : decode code 698 = .ok (.aload_n 0, 1) := by decide +kernel
theorem d_law_699 : decode code 699 = .ok (.iload 4, 2) := by decide +kernel
theorem d_law_701 : decode code 701 = .ok (.iconst 1, 1) := by decide +kernel
theorem d_law_702 : decode code 702 = .ok (.iadd, 1) := by decide +kernel
theorem d_law_703 : decode code 703 = .ok (.iaload, 1) := by decide +kernel
theorem d_law_704 : decode code 704 = .ok (.aload_n 0, 1) := by decide +kernel
theorem d_law_705 : decode code 705 = .ok (.iload 4, 2) := by decide +kernel
theorem d_law_707 : decode code 707 = .ok (.iconst 2, 1) := by decide +kernel
theorem d_law_708 : decode code 708 = .ok (.iadd, 1) := by decide +kernel
theorem d_law_709 : decode code 709 = .ok (.iaload, 1) := by decide +kernel
theorem d_law_710 : decode code 710 = .ok (.aload_n 0, 1) := by decide +kernel
theorem d_law_711 : decode code 711 = .ok (.iload 4, 2) := by decide +kernel
theorem d_law_713 : decode code 713 = .ok (.iconst 3, 1) := by decide +kernel
theorem d_law_714 : decode code 714 = .ok (.iadd, 1) := by decide +kernel
theorem d_law_715 : decode code 715 = .ok (.iaload, 1) := by decide +kernel
theorem d_law_716 : decode code 716 = .ok (.aload_n 0, 1) := by decide +kernel
theorem d_law_717 : decode code 717 = .ok (.iload 4, 2) := by decide +kernel
theorem d_law_719 : decode code 719 = .ok (.iconst 4, 1) := by decide +kernel
theorem d_law_720 : decode code 720 = .ok (.iadd, 1) := by decide +kernel
theorem d_law_721 : decode code 721 = .ok (.iaload, 1) := by decide +kernel
theorem d_law_722 : decode code 722 = .ok (.aload_n 0, 1) := by decide +kernel
theorem d_law_723 : decode code 723 = .ok (.iload 4, 2) := by decide +kernel
theorem d_law_725 : decode code 725 = .ok (.iconst 5, 1) := by decide +kernel
theorem d_law_726 : decode code 726 = .ok (.iadd, 1) := by decide +kernel
theorem d_law_727 : decode code 727 = .ok (.iaload, 1) := by decide +kernel
theorem d_law_728 : decode code 728 = .ok (.aload_n 3, 1) := by decide +kernel
theorem d_law_729 : decode code 729 = .ok (.invokestatic 97, 3) := by decide +kernel
theorem d_law_732 : decode code 732 = .ok (.istore 5, 2) := by decide +kernel
theorem d_law_734 : decode code 734 = .ok (.aload_n 2, 1) := by decide +kernel
theorem d_law_735 : decode code 735 = .ok (.aload_n 0, 1) := by decide +kernel
theorem d_law_736 : decode code 736 = .ok (.iload 4, 2) := by decide +kernel
theorem d_law_738 : decode code 738 = .ok (.iconst 1, 1) := by decide +kernel
theorem d_law_739 : decode code 739 = .ok (.iadd, 1) := by decide +kernel
theorem d_law_740 : decode code 740 = .ok (.iaload, 1) := by decide +kernel
theorem d_law_741 : decode code 741 = .ok (.aload_n 0, 1) := by decide +kernel
theorem d_law_742 : decode code 742 = .ok (.iload 4, 2) := by decide +kernel
theorem d_law_744 : decode code 744 = .ok (.iconst 2, 1) := by decide +kernel
theorem d_law_745 : decode code 745 = .ok (.iadd, 1) := by decide +kernel
theorem d_law_746 : decode code 746 = .ok (.iaload, 1) := by decide +kernel
theorem d_law_747 : decode code 747 = .ok (.aload_n 0, 1) := by decide +kernel
theorem d_law_748 : decode code 748 = .ok (.iload 4, 2) := by decide +kernel
theorem d_law_750 : decode code 750 = .ok (.iconst 3, 1) := by decide +kernel
theorem d_law_751 : decode code 751 = .ok (.iadd, 1) := by decide +kernel
theorem d_law_752 : decode code 752 = .ok (.iaload, 1) := by decide +kernel
theorem d_law_753 : decode code 753 = .ok (.aload_n 0, 1) := by decide +kernel
theorem d_law_754 : decode code 754 = .ok (.iload 4, 2) := by decide +kernel
theorem d_law_756 : decode code 756 = .ok (.iconst 4, 1) := by decide +kernel
theorem d_law_757 : decode code 757 = .ok (.iadd, 1) := by decide +kernel
theorem d_law_758 : decode code 758 = .ok (.iaload, 1) := by decide +kernel
theorem d_law_759 : decode code 759 = .ok (.aload_n 0, 1) := by decide +kernel
theorem d_law_760 : decode code 760 = .ok (.iload 4, 2) := by decide +kernel
theorem d_law_762 : decode code 762 = .ok (.iconst 5, 1) := by decide +kernel
theorem d_law_763 : decode code 763 = .ok (.iadd, 1) := by decide +kernel
theorem d_law_764 : decode code 764 = .ok (.iaload, 1) := by decide +kernel
theorem d_law_765 : decode code 765 = .ok (.invokevirtual 100, 3) := by decide +kernel
theorem d_law_768 : decode code 768 = .ok (.istore 6, 2) := by decide +kernel
theorem d_law_770 : decode code 770 = .ok (.aload_n 2, 1) := by decide +kernel
theorem d_law_771 : decode code 771 = .ok (.invokevirtual 62, 3) := by decide +kernel
theorem d_law_774 : decode code 774 = .ok (.iload 5, 2) := by decide +kernel
theorem d_law_776 : decode code 776 = .ok (.if_icmp .eq 5, 3) := by decide +kernel
theorem d_law_779 : decode code 779 = .ok (.iconst 0, 1) := by decide +kernel
theorem d_law_780 : decode code 780 = .ok (.ireturn, 1) := by decide +kernel
theorem d_law_781 : decode code 781 = .ok (.iload 5, 2) := by decide +kernel
theorem d_law_783 : decode code 783 = .ok (.ifCond .ne 15, 3) := by decide +kernel
theorem d_law_786 : decode code 786 = .ok (.aload_n 3, 1) := by decide +kernel
theorem d_law_787 : decode code 787 = .ok (.iconst 0, 1) := by decide +kernel
theorem d_law_788 : decode code 788 = .ok (.laload, 1) := by decide +kernel
theorem d_law_789 : decode code 789 = .ok (.iload 6, 2) := by decide +kernel
theorem d_law_791 : decode code 791 = .ok (.i2l, 1) := by decide +kernel
theorem d_law_792 : decode code 792 = .ok (.lcmp, 1) := by decide +kernel
theorem d_law_793 : decode code 793 = .ok (.ifCond .eq 5, 3) := by decide +kernel
theorem d_law_796 : decode code 796 = .ok (.iconst 0, 1) := by decide +kernel
theorem d_law_797 : decode code 797 = .ok (.ireturn, 1) := by decide +kernel
theorem d_law_798 : decode code 798 = .ok (.goto 3, 3) := by decide +kernel
theorem d_law_801 : decode code 801 = .ok (.iinc 4 6, 3) := by decide +kernel
theorem d_law_804 : decode code 804 = .ok (.goto (-781), 3) := by decide +kernel
theorem d_law_807 : decode code 807 = .ok (.iconst 1, 1) := by decide +kernel
theorem d_law_808 : decode code 808 = .ok (.ireturn, 1) := by decide +kernel
