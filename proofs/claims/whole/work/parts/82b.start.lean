theorem zn_45 : (Jvm.Cond.fieldLinkNest "WindowMachine" (56 : Nat) "WindowMachine$Assembler" "length" "I" "WindowMachine") ∈ lw_tbl := List.mem_append_right _ (List.mem_append_left _ (List.mem_of_getElem? (i := 45) rfl))
theorem zn_49 : (Jvm.Cond.fieldLinkNest "WindowMachine" (64 : Nat) "WindowMachine$Assembler" "wrong" "I" "WindowMachine") ∈ lw_tbl := List.mem_append_right _ (List.mem_append_left _ (List.mem_of_getElem? (i := 49) rfl))
theorem zn_81 : (Jvm.Cond.methodLinkNest "WindowMachine$Processor" (24 : Nat) ({ cls := "WindowMachine$Reckoner", name := "<init>", desc := "()V" } : Jvm.MethodName) "WindowMachine") ∈ lw_tbl := List.mem_append_right _ (List.mem_append_left _ (List.mem_of_getElem? (i := 81) rfl))
theorem zn_86 : (Jvm.Cond.fieldLinkNest "WindowMachine$Processor" (191 : Nat) "WindowMachine$Reckoner" "result" "I" "WindowMachine") ∈ lw_tbl := List.mem_append_right _ (List.mem_append_left _ (List.mem_of_getElem? (i := 86) rfl))
theorem zn_88 : (Jvm.Cond.fieldLinkNest "WindowMachine$Processor" (186 : Nat) "WindowMachine$Reckoner" "high" "I" "WindowMachine") ∈ lw_tbl := List.mem_append_right _ (List.mem_append_left _ (List.mem_of_getElem? (i := 88) rfl))
theorem zn_118 : (Jvm.Cond.fieldLinkNest "WindowMachine" (110 : Nat) "WindowMachine$Processor" "registers" "LWindowMachine$Registers;" "WindowMachine") ∈ lw_tbl := List.mem_append_right _ (List.mem_append_left _ (List.mem_of_getElem? (i := 118) rfl))
theorem zn_121 : (Jvm.Cond.fieldLinkNest "WindowMachine" (134 : Nat) "WindowMachine$Processor" "window" "I" "WindowMachine") ∈ lw_tbl := List.mem_append_right _ (List.mem_append_left _ (List.mem_of_getElem? (i := 121) rfl))
theorem zn_134 : (Jvm.Cond.fieldLinkNest "WindowMachine" (100 : Nat) "WindowMachine$Processor" "halted" "I" "WindowMachine") ∈ lw_tbl := List.mem_append_right _ (List.mem_append_left _ (List.mem_of_getElem? (i := 134) rfl))
theorem zn_682 : (Jvm.Cond.laysStatic "WindowMachine$Processor" "OCTETS_MOVED" "[I") ∈ lw_tbl := List.mem_append_right _ (List.mem_append_right _ (List.mem_append_right _ (List.mem_append_left _ (List.mem_of_getElem? (i := 202) rfl))))
theorem zn_4 : (Jvm.Cond.initialized "WindowMachine$Processor") ∈ lw_tbl := List.mem_append_right _ (List.mem_append_left _ (List.mem_of_getElem? (i := 4) rfl))
theorem zn_332 : (Jvm.Cond.laysStatic "java/lang/String" "COMPACT_STRINGS" "Z") ∈ lw_tbl := List.mem_append_right _ (List.mem_append_right _ (List.mem_append_left _ (List.mem_of_getElem? (i := 92) rfl)))
theorem zn_13 : (Jvm.Cond.initialized "java/lang/String") ∈ lw_tbl := List.mem_append_right _ (List.mem_append_left _ (List.mem_of_getElem? (i := 13) rfl))
theorem zn_348 : (Jvm.Cond.laysStatic "jdk/internal/util/Preconditions" "SIOOBE_FORMATTER" "Ljava/util/function/BiFunction;") ∈ lw_tbl := List.mem_append_right _ (List.mem_append_right _ (List.mem_append_left _ (List.mem_of_getElem? (i := 108) rfl)))
theorem zn_15 : (Jvm.Cond.initialized "jdk/internal/util/Preconditions") ∈ lw_tbl := List.mem_append_right _ (List.mem_append_left _ (List.mem_of_getElem? (i := 15) rfl))
theorem zn_230 : (Jvm.Cond.laysStatic "java/lang/Throwable" "UNASSIGNED_STACK" "[Ljava/lang/StackTraceElement;") ∈ lw_tbl := List.mem_append_right _ (List.mem_append_left _ (List.mem_of_getElem? (i := 230) rfl))
theorem zn_8 : (Jvm.Cond.initialized "java/lang/Throwable") ∈ lw_tbl := List.mem_append_right _ (List.mem_append_left _ (List.mem_of_getElem? (i := 8) rfl))
theorem zn_232 : (Jvm.Cond.laysStatic "java/lang/Throwable" "SUPPRESSED_SENTINEL" "Ljava/util/List;") ∈ lw_tbl := List.mem_append_right _ (List.mem_append_left _ (List.mem_of_getElem? (i := 232) rfl))
theorem zn_314 : (Jvm.Cond.stringRef "WindowMachine$Assembler" (73 : Nat) "add and or xor sub andn orn xnor addx - umul smul subx - udiv sdiv") ∈ lw_tbl := List.mem_append_right _ (List.mem_append_right _ (List.mem_append_left _ (List.mem_of_getElem? (i := 74) rfl)))
theorem zn_375 : (Jvm.Cond.stringRef "WindowMachine$Assembler" (78 : Nat) "addcc andcc orcc xorcc subcc andncc orncc xnorcc addxcc - umulcc smulcc subxcc - udivcc sdivcc") ∈ lw_tbl := List.mem_append_right _ (List.mem_append_right _ (List.mem_append_left _ (List.mem_of_getElem? (i := 135) rfl)))
theorem zn_376 : (Jvm.Cond.stringRef "WindowMachine$Assembler" (80 : Nat) "mulscc sll srl sra") ∈ lw_tbl := List.mem_append_right _ (List.mem_append_right _ (List.mem_append_left _ (List.mem_of_getElem? (i := 136) rfl)))
theorem zn_377 : (Jvm.Cond.stringRef "WindowMachine$Assembler" (82 : Nat) "rdy rdpsr rdwim rdtbr") ∈ lw_tbl := List.mem_append_right _ (List.mem_append_right _ (List.mem_append_left _ (List.mem_of_getElem? (i := 137) rfl)))
theorem zn_378 : (Jvm.Cond.stringRef "WindowMachine$Assembler" (84 : Nat) "wry wrpsr wrwim wrtbr") ∈ lw_tbl := List.mem_append_right _ (List.mem_append_right _ (List.mem_append_left _ (List.mem_of_getElem? (i := 138) rfl)))
theorem zn_379 : (Jvm.Cond.stringRef "WindowMachine$Assembler" (86 : Nat) "jmpl rett - - save restore") ∈ lw_tbl := List.mem_append_right _ (List.mem_append_right _ (List.mem_append_left _ (List.mem_of_getElem? (i := 139) rfl)))
theorem zn_384 : (Jvm.Cond.stringRef "WindowMachine$Assembler" (51 : Nat) "ld ldub lduh ldd st stb sth std - ldsb ldsh - - ldstub - swap") ∈ lw_tbl := List.mem_append_right _ (List.mem_append_right _ (List.mem_append_left _ (List.mem_of_getElem? (i := 144) rfl)))
theorem zn_390 : (Jvm.Cond.stringRef "WindowMachine$Assembler" (88 : Nat) "n e le l leu cs neg vs a ne g ge gu cc pos vc") ∈ lw_tbl := List.mem_append_right _ (List.mem_append_right _ (List.mem_append_left _ (List.mem_of_getElem? (i := 150) rfl)))
theorem zn_397 : (Jvm.Cond.stringRef "WindowMachine$Assembler" (69 : Nat) "nop sethi call") ∈ lw_tbl := List.mem_append_right _ (List.mem_append_right _ (List.mem_append_left _ (List.mem_of_getElem? (i := 157) rfl)))
theorem zn_244 : (Jvm.Cond.stringRef "WindowMachine" (38 : Nat) "an octet is no letter") ∈ lw_tbl := List.mem_append_right _ (List.mem_append_right _ (List.mem_append_left _ (List.mem_of_getElem? (i := 4) rfl)))
theorem zn_284 : (Jvm.Cond.stringRef "WindowMachine" (49 : Nat) "the line would be too long") ∈ lw_tbl := List.mem_append_right _ (List.mem_append_right _ (List.mem_append_left _ (List.mem_of_getElem? (i := 44) rfl)))
theorem zn_450 : (Jvm.Cond.stringRef "WindowMachine" (67 : Nat) "the line is no instruction") ∈ lw_tbl := List.mem_append_right _ (List.mem_append_right _ (List.mem_append_left _ (List.mem_of_getElem? (i := 210) rfl)))
theorem zn_463 : (Jvm.Cond.stringRef "WindowMachine" (98 : Nat) "there is no word at this address") ∈ lw_tbl := List.mem_append_right _ (List.mem_append_right _ (List.mem_append_left _ (List.mem_of_getElem? (i := 223) rfl)))
theorem zn_500 : (Jvm.Cond.stringRef "WindowMachine" (81 : Nat) "the number of steps is not 1 to 200") ∈ lw_tbl := List.mem_append_right _ (List.mem_append_right _ (List.mem_append_right _ (List.mem_append_left _ (List.mem_of_getElem? (i := 20) rfl))))
theorem zn_514 : (Jvm.Cond.stringRef "WindowMachine" (89 : Nat) "the processor has halted") ∈ lw_tbl := List.mem_append_right _ (List.mem_append_right _ (List.mem_append_right _ (List.mem_append_left _ (List.mem_of_getElem? (i := 34) rfl))))
theorem zn_722 : (Jvm.Cond.stringRef "WindowMachine" (141 : Nat) "there is no such register") ∈ lw_tbl := List.mem_append_right _ (List.mem_append_right _ (List.mem_append_right _ (List.mem_append_right _ (List.mem_append_left _ (List.mem_of_getElem? (i := 2) rfl)))))
theorem zn_739 : (Jvm.Cond.stringRef "WindowMachine" (122 : Nat) "the state has no such part") ∈ lw_tbl := List.mem_append_right _ (List.mem_append_right _ (List.mem_append_right _ (List.mem_append_right _ (List.mem_append_left _ (List.mem_of_getElem? (i := 19) rfl)))))
theorem zn_751 : (Jvm.Cond.stringRef "WindowMachine" (128 : Nat) "flags or invalid is not 0 to 15, or mode not 0 to 7") ∈ lw_tbl := List.mem_append_right _ (List.mem_append_right _ (List.mem_append_right _ (List.mem_append_right _ (List.mem_append_left _ (List.mem_of_getElem? (i := 31) rfl)))))
theorem zn_205 : (Jvm.Cond.castable "java/lang/IllegalArgumentException" "java/lang/IllegalArgumentException") ∈ lw_tbl := List.mem_append_right _ (List.mem_append_left _ (List.mem_of_getElem? (i := 205) rfl))
theorem zn_206 : (Jvm.Cond.declares ({ cls := "java/lang/RuntimeException", name := "<init>", desc := "()V" } : Jvm.MethodName)) ∈ lw_tbl := List.mem_append_right _ (List.mem_append_left _ (List.mem_of_getElem? (i := 206) rfl))
theorem zn_207 : (Jvm.Cond.declares ({ cls := "java/lang/RuntimeException", name := "<init>", desc := "(Ljava/lang/String;)V" } : Jvm.MethodName)) ∈ lw_tbl := List.mem_append_right _ (List.mem_append_left _ (List.mem_of_getElem? (i := 207) rfl))
theorem zn_208 : (Jvm.Cond.declares ({ cls := "java/lang/Exception", name := "<init>", desc := "()V" } : Jvm.MethodName)) ∈ lw_tbl := List.mem_append_right _ (List.mem_append_left _ (List.mem_of_getElem? (i := 208) rfl))
theorem zn_209 : (Jvm.Cond.declares ({ cls := "java/lang/Exception", name := "<init>", desc := "(Ljava/lang/String;)V" } : Jvm.MethodName)) ∈ lw_tbl := List.mem_append_right _ (List.mem_append_left _ (List.mem_of_getElem? (i := 209) rfl))
theorem zn_210 : (Jvm.Cond.declares ({ cls := "java/lang/Throwable", name := "<init>", desc := "()V" } : Jvm.MethodName)) ∈ lw_tbl := List.mem_append_right _ (List.mem_append_left _ (List.mem_of_getElem? (i := 210) rfl))
theorem zn_211 : (Jvm.Cond.declares ({ cls := "java/lang/Throwable", name := "<init>", desc := "(Ljava/lang/String;)V" } : Jvm.MethodName)) ∈ lw_tbl := List.mem_append_right _ (List.mem_append_left _ (List.mem_of_getElem? (i := 211) rfl))
theorem zn_277 : (Jvm.Cond.castable "java/lang/IndexOutOfBoundsException" "java/lang/IndexOutOfBoundsException") ∈ lw_tbl := List.mem_append_right _ (List.mem_append_right _ (List.mem_append_left _ (List.mem_of_getElem? (i := 37) rfl)))
theorem zn_507 : (Jvm.Cond.castable "java/lang/IllegalStateException" "java/lang/IllegalStateException") ∈ lw_tbl := List.mem_append_right _ (List.mem_append_right _ (List.mem_append_right _ (List.mem_append_left _ (List.mem_of_getElem? (i := 27) rfl))))
theorem ss_sz : ∀ i : Nat, i < 18 → lenS.getD i 0 < 2 ^ 31 := by decide +kernel
theorem oc_el {args : Array Value} {s : State} (h : (Jvm.Cond.and given_1 narrow_1).before args s = true) : ∀ j : Nat, j < 16 → (Cond.eq (.elem (.static "WindowMachine$Processor" "OCTETS_MOVED" "[I") (.int (Int32.ofNat j))) (.int (octN j))).before args s = true := by
  intro j hi
  match j, hi with
  | 0, _ => exact (ba_L (ba_R (ba_R (ba_R (ba_L (ba_L (ba_L (ba_L (ba_L (ba_L (ba_R h)))))))))))
  | 1, _ => exact (ba_R (ba_R (ba_R (ba_R (ba_L (ba_L (ba_L (ba_L (ba_L (ba_L (ba_R h)))))))))))
  | 2, _ => exact (ba_L (ba_L (ba_L (ba_R (ba_L (ba_L (ba_L (ba_L (ba_L (ba_R h))))))))))
  | 3, _ => exact (ba_L (ba_R (ba_L (ba_L (ba_R (ba_L (ba_L (ba_L (ba_L (ba_L (ba_R h)))))))))))
  | 4, _ => exact (ba_R (ba_R (ba_L (ba_L (ba_R (ba_L (ba_L (ba_L (ba_L (ba_L (ba_R h)))))))))))
  | 5, _ => exact (ba_L (ba_L (ba_R (ba_L (ba_R (ba_L (ba_L (ba_L (ba_L (ba_L (ba_R h)))))))))))
  | 6, _ => exact (ba_R (ba_L (ba_R (ba_L (ba_R (ba_L (ba_L (ba_L (ba_L (ba_L (ba_R h)))))))))))
  | 7, _ => exact (ba_L (ba_R (ba_R (ba_L (ba_R (ba_L (ba_L (ba_L (ba_L (ba_L (ba_R h)))))))))))
  | 8, _ => exact (ba_R (ba_R (ba_R (ba_L (ba_R (ba_L (ba_L (ba_L (ba_L (ba_L (ba_R h)))))))))))
  | 9, _ => exact (ba_L (ba_L (ba_R (ba_R (ba_L (ba_L (ba_L (ba_L (ba_L (ba_R h))))))))))
  | 10, _ => exact (ba_L (ba_R (ba_L (ba_R (ba_R (ba_L (ba_L (ba_L (ba_L (ba_L (ba_R h)))))))))))
  | 11, _ => exact (ba_R (ba_R (ba_L (ba_R (ba_R (ba_L (ba_L (ba_L (ba_L (ba_L (ba_R h)))))))))))
  | 12, _ => exact (ba_L (ba_L (ba_R (ba_R (ba_R (ba_L (ba_L (ba_L (ba_L (ba_L (ba_R h)))))))))))
  | 13, _ => exact (ba_R (ba_L (ba_R (ba_R (ba_R (ba_L (ba_L (ba_L (ba_L (ba_L (ba_R h)))))))))))
  | 14, _ => exact (ba_L (ba_R (ba_R (ba_R (ba_R (ba_L (ba_L (ba_L (ba_L (ba_L (ba_R h)))))))))))
  | 15, _ => exact (ba_R (ba_R (ba_R (ba_R (ba_R (ba_L (ba_L (ba_L (ba_L (ba_L (ba_R h)))))))))))
  | k + 16, hi => exact absurd hi (by omega)
set_option maxHeartbeats 4000000 in
set_option maxRecDepth 100000 in
theorem zh_start {args : Array Value} {s : State} (hts : ∀ w ∈ lw_tbl, w.before args s = true) (h : (Jvm.Cond.and given_1 narrow_1).before args s = true) : ∃ za zk zv : Nat → Nat, zh za zk zv (fun q : Nat => s.heap.size ≤ q) s := by
  have hA : ∀ a : Nat, a < s.heap.size → ¬ (fun q : Nat => s.heap.size ≤ q) a := fun a h => Nat.not_le.mpr h
  obtain ⟨zk, zv, hs, hev⟩ := vk_Sof (N := 18) (tm := tmS) (len := lenS) (byt := bytS) (A := (fun q : Nat => s.heap.size ≤ q)) ss_sz (ss_ex h) (ss_co h) (ss_ar h) (ss_le h) (ss_el h) (fun i j hi hj hij => ss_ne h i hi j hj hij) hA
  obtain ⟨t, ht, hT⟩ := va_Tof (tm := .static "WindowMachine$Processor" "OCTETS_MOVED" "[I") (ty := .int) (N := 16) (f := octV) (A := (fun q : Nat => s.heap.size ≤ q)) (by decide) (ba_L (ba_L (ba_R (ba_R (ba_L (ba_L (ba_L (ba_L (ba_L (ba_L (ba_R h))))))))))) (va_eqt (z := Int32.ofNat 16) (ba_R (ba_L (ba_R (ba_R (ba_L (ba_L (ba_L (ba_L (ba_L (ba_L (ba_R h)))))))))))) (fun j hj => va_eqt (oc_el h j hj)) hA
  exact ⟨fun _ => t, zk, zv, ⟨⟨va_Nw.of rfl (hts _ zn_45),
    va_Nw.of rfl (hts _ zn_49),
    va_Nw.of rfl (hts _ zn_81),
    va_Nw.of rfl (hts _ zn_86),
    va_Nw.of rfl (hts _ zn_88),
    va_Nw.of rfl (hts _ zn_118),
    va_Nw.of rfl (hts _ zn_121),
    va_Nw.of rfl (hts _ zn_134),
    va_Zof (hts _ zn_682) (hts _ zn_4) ht hA,
    hT,
    va_Zof (hts _ zn_332) (hts _ zn_13) (va_eqi (ba_R (ba_L (ba_R (ba_L (ba_L (ba_L (ba_L (ba_L (ba_L (ba_L (ba_R h)))))))))))) hA,
    va_Zqof (hts _ zn_348) (hts _ zn_15) (ba_L (ba_R (ba_R (ba_L (ba_L (ba_L (ba_L (ba_L (ba_L (ba_L (ba_R h))))))))))) hA,
    vx_Zqof (C := "java/lang/Throwable") (n := "UNASSIGNED_STACK") (d := "[Ljava/lang/StackTraceElement;") (hts _ zn_230) (hts _ zn_8) (ba_R (ba_R (ba_L (ba_L (ba_L (ba_L (ba_L (ba_L (ba_L (ba_L (ba_R h))))))))))) hA,
    vx_Zqof (C := "java/lang/Throwable") (n := "SUPPRESSED_SENTINEL") (d := "Ljava/util/List;") (hts _ zn_232) (hts _ zn_8) (ba_L (ba_L (ba_R (ba_L (ba_L (ba_L (ba_L (ba_L (ba_L (ba_L (ba_R h))))))))))) hA,
    hs,
    vk_R.of (hts _ zn_314) (hev 0 (by decide)),
    vk_R.of (hts _ zn_375) (hev 1 (by decide)),
    vk_R.of (hts _ zn_376) (hev 2 (by decide)),
    vk_R.of (hts _ zn_377) (hev 3 (by decide)),
    vk_R.of (hts _ zn_378) (hev 4 (by decide)),
    vk_R.of (hts _ zn_379) (hev 5 (by decide)),
    vk_R.of (hts _ zn_384) (hev 6 (by decide)),
    vk_R.of (hts _ zn_390) (hev 7 (by decide)),
    vk_R.of (hts _ zn_397) (hev 8 (by decide)),
    vk_R.of (hts _ zn_244) (hev 9 (by decide)),
    vk_R.of (hts _ zn_284) (hev 10 (by decide)),
    vk_R.of (hts _ zn_450) (hev 11 (by decide)),
    vk_R.of (hts _ zn_463) (hev 12 (by decide)),
    vk_R.of (hts _ zn_500) (hev 13 (by decide)),
    vk_R.of (hts _ zn_514) (hev 14 (by decide)),
    vk_R.of (hts _ zn_722) (hev 15 (by decide)),
    vk_R.of (hts _ zn_739) (hev 16 (by decide)),
    vk_R.of (hts _ zn_751) (hev 17 (by decide))⟩, va_Nw.of rfl (hts _ zn_205),
    va_Nw.of rfl (hts _ zn_206),
    va_Nw.of rfl (hts _ zn_207),
    va_Nw.of rfl (hts _ zn_208),
    va_Nw.of rfl (hts _ zn_209),
    va_Nw.of rfl (hts _ zn_210),
    va_Nw.of rfl (hts _ zn_211),
    va_Nw.of rfl (hts _ zn_277),
    va_Nw.of rfl (hts _ zn_507)⟩, va_Nc.of (ba_L (ba_L (ba_R (ba_L (ba_R (ba_L (ba_L (ba_L (ba_L (ba_R h)))))))))), va_Nc.of (ba_L (ba_R (ba_L (ba_R (ba_L (ba_R (ba_L (ba_L (ba_L (ba_L (ba_R h)))))))))))⟩
