/-- the octets that each op3 of op 3 moves -/
def octN : Nat → Int32 := fun j => ([4, 1, 2, 8, 4, 1, 2, 8, 0, 1, 2, 0, 0, 1, 0, 4] : List Int32).getD j 0
def octV : Nat → Value := fun j => .int (octN j)
def lenS : List Nat := [66, 94, 18, 21, 21, 26, 61, 45, 14, 21, 26, 26, 32, 35, 24, 25, 26, 51]
def bytS : List (List Int32) := [[97, 100, 100, 32, 97, 110, 100, 32, 111, 114, 32, 120, 111, 114, 32, 115, 117, 98, 32, 97, 110, 100, 110, 32, 111, 114, 110, 32, 120, 110, 111, 114, 32, 97, 100, 100, 120, 32, 45, 32, 117, 109, 117, 108, 32, 115, 109, 117, 108, 32, 115, 117, 98, 120, 32, 45, 32, 117, 100, 105, 118, 32, 115, 100, 105, 118], [97, 100, 100, 99, 99, 32, 97, 110, 100, 99, 99, 32, 111, 114, 99, 99, 32, 120, 111, 114, 99, 99, 32, 115, 117, 98, 99, 99, 32, 97, 110, 100, 110, 99, 99, 32, 111, 114, 110, 99, 99, 32, 120, 110, 111, 114, 99, 99, 32, 97, 100, 100, 120, 99, 99, 32, 45, 32, 117, 109, 117, 108, 99, 99, 32, 115, 109, 117, 108, 99, 99, 32, 115, 117, 98, 120, 99, 99, 32, 45, 32, 117, 100, 105, 118, 99, 99, 32, 115, 100, 105, 118, 99, 99], [109, 117, 108, 115, 99, 99, 32, 115, 108, 108, 32, 115, 114, 108, 32, 115, 114, 97], [114, 100, 121, 32, 114, 100, 112, 115, 114, 32, 114, 100, 119, 105, 109, 32, 114, 100, 116, 98, 114], [119, 114, 121, 32, 119, 114, 112, 115, 114, 32, 119, 114, 119, 105, 109, 32, 119, 114, 116, 98, 114], [106, 109, 112, 108, 32, 114, 101, 116, 116, 32, 45, 32, 45, 32, 115, 97, 118, 101, 32, 114, 101, 115, 116, 111, 114, 101], [108, 100, 32, 108, 100, 117, 98, 32, 108, 100, 117, 104, 32, 108, 100, 100, 32, 115, 116, 32, 115, 116, 98, 32, 115, 116, 104, 32, 115, 116, 100, 32, 45, 32, 108, 100, 115, 98, 32, 108, 100, 115, 104, 32, 45, 32, 45, 32, 108, 100, 115, 116, 117, 98, 32, 45, 32, 115, 119, 97, 112], [110, 32, 101, 32, 108, 101, 32, 108, 32, 108, 101, 117, 32, 99, 115, 32, 110, 101, 103, 32, 118, 115, 32, 97, 32, 110, 101, 32, 103, 32, 103, 101, 32, 103, 117, 32, 99, 99, 32, 112, 111, 115, 32, 118, 99], [110, 111, 112, 32, 115, 101, 116, 104, 105, 32, 99, 97, 108, 108], [97, 110, 32, 111, 99, 116, 101, 116, 32, 105, 115, 32, 110, 111, 32, 108, 101, 116, 116, 101, 114], [116, 104, 101, 32, 108, 105, 110, 101, 32, 119, 111, 117, 108, 100, 32, 98, 101, 32, 116, 111, 111, 32, 108, 111, 110, 103], [116, 104, 101, 32, 108, 105, 110, 101, 32, 105, 115, 32, 110, 111, 32, 105, 110, 115, 116, 114, 117, 99, 116, 105, 111, 110], [116, 104, 101, 114, 101, 32, 105, 115, 32, 110, 111, 32, 119, 111, 114, 100, 32, 97, 116, 32, 116, 104, 105, 115, 32, 97, 100, 100, 114, 101, 115, 115], [116, 104, 101, 32, 110, 117, 109, 98, 101, 114, 32, 111, 102, 32, 115, 116, 101, 112, 115, 32, 105, 115, 32, 110, 111, 116, 32, 49, 32, 116, 111, 32, 50, 48, 48], [116, 104, 101, 32, 112, 114, 111, 99, 101, 115, 115, 111, 114, 32, 104, 97, 115, 32, 104, 97, 108, 116, 101, 100], [116, 104, 101, 114, 101, 32, 105, 115, 32, 110, 111, 32, 115, 117, 99, 104, 32, 114, 101, 103, 105, 115, 116, 101, 114], [116, 104, 101, 32, 115, 116, 97, 116, 101, 32, 104, 97, 115, 32, 110, 111, 32, 115, 117, 99, 104, 32, 112, 97, 114, 116], [102, 108, 97, 103, 115, 32, 111, 114, 32, 105, 110, 118, 97, 108, 105, 100, 32, 105, 115, 32, 110, 111, 116, 32, 48, 32, 116, 111, 32, 49, 53, 44, 32, 111, 114, 32, 109, 111, 100, 101, 32, 110, 111, 116, 32, 48, 32, 116, 111, 32, 55]]
def zz (za zk zv : Nat → Nat) (A : Nat → Prop) (U : State) : Prop :=
  va_Nw (Jvm.Cond.fieldLinkNest "WindowMachine" (56 : Nat) "WindowMachine$Assembler" "length" "I" "WindowMachine") U ∧
  va_Nw (Jvm.Cond.fieldLinkNest "WindowMachine" (64 : Nat) "WindowMachine$Assembler" "wrong" "I" "WindowMachine") U ∧
  va_Nw (Jvm.Cond.methodLinkNest "WindowMachine$Processor" (24 : Nat) ({ cls := "WindowMachine$Reckoner", name := "<init>", desc := "()V" } : Jvm.MethodName) "WindowMachine") U ∧
  va_Nw (Jvm.Cond.fieldLinkNest "WindowMachine$Processor" (191 : Nat) "WindowMachine$Reckoner" "result" "I" "WindowMachine") U ∧
  va_Nw (Jvm.Cond.fieldLinkNest "WindowMachine$Processor" (186 : Nat) "WindowMachine$Reckoner" "high" "I" "WindowMachine") U ∧
  va_Nw (Jvm.Cond.fieldLinkNest "WindowMachine" (110 : Nat) "WindowMachine$Processor" "registers" "LWindowMachine$Registers;" "WindowMachine") U ∧
  va_Nw (Jvm.Cond.fieldLinkNest "WindowMachine" (134 : Nat) "WindowMachine$Processor" "window" "I" "WindowMachine") U ∧
  va_Nw (Jvm.Cond.fieldLinkNest "WindowMachine" (100 : Nat) "WindowMachine$Processor" "halted" "I" "WindowMachine") U ∧
  va_Z "WindowMachine$Processor" "OCTETS_MOVED" "[I" (.ref (za 0)) A U U.heap ∧
  va_T .int (za 0) 16 octV A U U.heap ∧
  va_Z "java/lang/String" "COMPACT_STRINGS" "Z" (.int 1) A U U.heap ∧
  va_Zq "jdk/internal/util/Preconditions" "SIOOBE_FORMATTER" "Ljava/util/function/BiFunction;" A U U.heap ∧
  vx_Zq Bundle.tN "UNASSIGNED_STACK" Bundle.steD A U U.heap ∧
  vx_Zq Bundle.tN "SUPPRESSED_SENTINEL" Bundle.listD A U U.heap ∧
  vk_S 18 lenS bytS zk zv A U U.heap ∧
  vk_R "WindowMachine$Assembler" 73 "add and or xor sub andn orn xnor addx - umul smul subx - udiv sdiv" (zk 0) U ∧
  vk_R "WindowMachine$Assembler" 78 "addcc andcc orcc xorcc subcc andncc orncc xnorcc addxcc - umulcc smulcc subxcc - udivcc sdivcc" (zk 1) U ∧
  vk_R "WindowMachine$Assembler" 80 "mulscc sll srl sra" (zk 2) U ∧
  vk_R "WindowMachine$Assembler" 82 "rdy rdpsr rdwim rdtbr" (zk 3) U ∧
  vk_R "WindowMachine$Assembler" 84 "wry wrpsr wrwim wrtbr" (zk 4) U ∧
  vk_R "WindowMachine$Assembler" 86 "jmpl rett - - save restore" (zk 5) U ∧
  vk_R "WindowMachine$Assembler" 51 "ld ldub lduh ldd st stb sth std - ldsb ldsh - - ldstub - swap" (zk 6) U ∧
  vk_R "WindowMachine$Assembler" 88 "n e le l leu cs neg vs a ne g ge gu cc pos vc" (zk 7) U ∧
  vk_R "WindowMachine$Assembler" 69 "nop sethi call" (zk 8) U ∧
  vk_R "WindowMachine" 38 "an octet is no letter" (zk 9) U ∧
  vk_R "WindowMachine" 49 "the line would be too long" (zk 10) U ∧
  vk_R "WindowMachine" 67 "the line is no instruction" (zk 11) U ∧
  vk_R "WindowMachine" 98 "there is no word at this address" (zk 12) U ∧
  vk_R "WindowMachine" 81 "the number of steps is not 1 to 200" (zk 13) U ∧
  vk_R "WindowMachine" 89 "the processor has halted" (zk 14) U ∧
  vk_R "WindowMachine" 141 "there is no such register" (zk 15) U ∧
  vk_R "WindowMachine" 122 "the state has no such part" (zk 16) U ∧
  vk_R "WindowMachine" 128 "flags or invalid is not 0 to 15, or mode not 0 to 7" (zk 17) U
theorem zz_n45 {za zk zv : Nat → Nat} {A : Nat → Prop} {U : State} (h : zz za zk zv A U) : va_Nw (Jvm.Cond.fieldLinkNest "WindowMachine" (56 : Nat) "WindowMachine$Assembler" "length" "I" "WindowMachine") U := h.1
theorem zz_n49 {za zk zv : Nat → Nat} {A : Nat → Prop} {U : State} (h : zz za zk zv A U) : va_Nw (Jvm.Cond.fieldLinkNest "WindowMachine" (64 : Nat) "WindowMachine$Assembler" "wrong" "I" "WindowMachine") U := h.2.1
theorem zz_n81 {za zk zv : Nat → Nat} {A : Nat → Prop} {U : State} (h : zz za zk zv A U) : va_Nw (Jvm.Cond.methodLinkNest "WindowMachine$Processor" (24 : Nat) ({ cls := "WindowMachine$Reckoner", name := "<init>", desc := "()V" } : Jvm.MethodName) "WindowMachine") U := h.2.2.1
theorem zz_n86 {za zk zv : Nat → Nat} {A : Nat → Prop} {U : State} (h : zz za zk zv A U) : va_Nw (Jvm.Cond.fieldLinkNest "WindowMachine$Processor" (191 : Nat) "WindowMachine$Reckoner" "result" "I" "WindowMachine") U := h.2.2.2.1
theorem zz_n88 {za zk zv : Nat → Nat} {A : Nat → Prop} {U : State} (h : zz za zk zv A U) : va_Nw (Jvm.Cond.fieldLinkNest "WindowMachine$Processor" (186 : Nat) "WindowMachine$Reckoner" "high" "I" "WindowMachine") U := h.2.2.2.2.1
theorem zz_n118 {za zk zv : Nat → Nat} {A : Nat → Prop} {U : State} (h : zz za zk zv A U) : va_Nw (Jvm.Cond.fieldLinkNest "WindowMachine" (110 : Nat) "WindowMachine$Processor" "registers" "LWindowMachine$Registers;" "WindowMachine") U := h.2.2.2.2.2.1
theorem zz_n121 {za zk zv : Nat → Nat} {A : Nat → Prop} {U : State} (h : zz za zk zv A U) : va_Nw (Jvm.Cond.fieldLinkNest "WindowMachine" (134 : Nat) "WindowMachine$Processor" "window" "I" "WindowMachine") U := h.2.2.2.2.2.2.1
theorem zz_n134 {za zk zv : Nat → Nat} {A : Nat → Prop} {U : State} (h : zz za zk zv A U) : va_Nw (Jvm.Cond.fieldLinkNest "WindowMachine" (100 : Nat) "WindowMachine$Processor" "halted" "I" "WindowMachine") U := h.2.2.2.2.2.2.2.1
theorem zz_octZ {za zk zv : Nat → Nat} {A : Nat → Prop} {U : State} (h : zz za zk zv A U) : va_Z "WindowMachine$Processor" "OCTETS_MOVED" "[I" (.ref (za 0)) A U U.heap := h.2.2.2.2.2.2.2.2.1
theorem zz_octT {za zk zv : Nat → Nat} {A : Nat → Prop} {U : State} (h : zz za zk zv A U) : va_T .int (za 0) 16 octV A U U.heap := h.2.2.2.2.2.2.2.2.2.1
theorem zz_cs {za zk zv : Nat → Nat} {A : Nat → Prop} {U : State} (h : zz za zk zv A U) : va_Z "java/lang/String" "COMPACT_STRINGS" "Z" (.int 1) A U U.heap := h.2.2.2.2.2.2.2.2.2.2.1
theorem zz_sio {za zk zv : Nat → Nat} {A : Nat → Prop} {U : State} (h : zz za zk zv A U) : va_Zq "jdk/internal/util/Preconditions" "SIOOBE_FORMATTER" "Ljava/util/function/BiFunction;" A U U.heap := h.2.2.2.2.2.2.2.2.2.2.2.1
theorem zz_us {za zk zv : Nat → Nat} {A : Nat → Prop} {U : State} (h : zz za zk zv A U) : vx_Zq Bundle.tN "UNASSIGNED_STACK" Bundle.steD A U U.heap := h.2.2.2.2.2.2.2.2.2.2.2.2.1
theorem zz_ss {za zk zv : Nat → Nat} {A : Nat → Prop} {U : State} (h : zz za zk zv A U) : vx_Zq Bundle.tN "SUPPRESSED_SENTINEL" Bundle.listD A U U.heap := h.2.2.2.2.2.2.2.2.2.2.2.2.2.1
theorem zz_st {za zk zv : Nat → Nat} {A : Nat → Prop} {U : State} (h : zz za zk zv A U) : vk_S 18 lenS bytS zk zv A U U.heap := h.2.2.2.2.2.2.2.2.2.2.2.2.2.2.1
theorem zz_r0 {za zk zv : Nat → Nat} {A : Nat → Prop} {U : State} (h : zz za zk zv A U) : vk_R "WindowMachine$Assembler" 73 "add and or xor sub andn orn xnor addx - umul smul subx - udiv sdiv" (zk 0) U := h.2.2.2.2.2.2.2.2.2.2.2.2.2.2.2.1
theorem zz_r1 {za zk zv : Nat → Nat} {A : Nat → Prop} {U : State} (h : zz za zk zv A U) : vk_R "WindowMachine$Assembler" 78 "addcc andcc orcc xorcc subcc andncc orncc xnorcc addxcc - umulcc smulcc subxcc - udivcc sdivcc" (zk 1) U := h.2.2.2.2.2.2.2.2.2.2.2.2.2.2.2.2.1
theorem zz_r2 {za zk zv : Nat → Nat} {A : Nat → Prop} {U : State} (h : zz za zk zv A U) : vk_R "WindowMachine$Assembler" 80 "mulscc sll srl sra" (zk 2) U := h.2.2.2.2.2.2.2.2.2.2.2.2.2.2.2.2.2.1
theorem zz_r3 {za zk zv : Nat → Nat} {A : Nat → Prop} {U : State} (h : zz za zk zv A U) : vk_R "WindowMachine$Assembler" 82 "rdy rdpsr rdwim rdtbr" (zk 3) U := h.2.2.2.2.2.2.2.2.2.2.2.2.2.2.2.2.2.2.1
theorem zz_r4 {za zk zv : Nat → Nat} {A : Nat → Prop} {U : State} (h : zz za zk zv A U) : vk_R "WindowMachine$Assembler" 84 "wry wrpsr wrwim wrtbr" (zk 4) U := h.2.2.2.2.2.2.2.2.2.2.2.2.2.2.2.2.2.2.2.1
theorem zz_r5 {za zk zv : Nat → Nat} {A : Nat → Prop} {U : State} (h : zz za zk zv A U) : vk_R "WindowMachine$Assembler" 86 "jmpl rett - - save restore" (zk 5) U := h.2.2.2.2.2.2.2.2.2.2.2.2.2.2.2.2.2.2.2.2.1
theorem zz_r6 {za zk zv : Nat → Nat} {A : Nat → Prop} {U : State} (h : zz za zk zv A U) : vk_R "WindowMachine$Assembler" 51 "ld ldub lduh ldd st stb sth std - ldsb ldsh - - ldstub - swap" (zk 6) U := h.2.2.2.2.2.2.2.2.2.2.2.2.2.2.2.2.2.2.2.2.2.1
theorem zz_r7 {za zk zv : Nat → Nat} {A : Nat → Prop} {U : State} (h : zz za zk zv A U) : vk_R "WindowMachine$Assembler" 88 "n e le l leu cs neg vs a ne g ge gu cc pos vc" (zk 7) U := h.2.2.2.2.2.2.2.2.2.2.2.2.2.2.2.2.2.2.2.2.2.2.1
theorem zz_r8 {za zk zv : Nat → Nat} {A : Nat → Prop} {U : State} (h : zz za zk zv A U) : vk_R "WindowMachine$Assembler" 69 "nop sethi call" (zk 8) U := h.2.2.2.2.2.2.2.2.2.2.2.2.2.2.2.2.2.2.2.2.2.2.2.1
theorem zz_r9 {za zk zv : Nat → Nat} {A : Nat → Prop} {U : State} (h : zz za zk zv A U) : vk_R "WindowMachine" 38 "an octet is no letter" (zk 9) U := h.2.2.2.2.2.2.2.2.2.2.2.2.2.2.2.2.2.2.2.2.2.2.2.2.1
theorem zz_r10 {za zk zv : Nat → Nat} {A : Nat → Prop} {U : State} (h : zz za zk zv A U) : vk_R "WindowMachine" 49 "the line would be too long" (zk 10) U := h.2.2.2.2.2.2.2.2.2.2.2.2.2.2.2.2.2.2.2.2.2.2.2.2.2.1
theorem zz_r11 {za zk zv : Nat → Nat} {A : Nat → Prop} {U : State} (h : zz za zk zv A U) : vk_R "WindowMachine" 67 "the line is no instruction" (zk 11) U := h.2.2.2.2.2.2.2.2.2.2.2.2.2.2.2.2.2.2.2.2.2.2.2.2.2.2.1
theorem zz_r12 {za zk zv : Nat → Nat} {A : Nat → Prop} {U : State} (h : zz za zk zv A U) : vk_R "WindowMachine" 98 "there is no word at this address" (zk 12) U := h.2.2.2.2.2.2.2.2.2.2.2.2.2.2.2.2.2.2.2.2.2.2.2.2.2.2.2.1
theorem zz_r13 {za zk zv : Nat → Nat} {A : Nat → Prop} {U : State} (h : zz za zk zv A U) : vk_R "WindowMachine" 81 "the number of steps is not 1 to 200" (zk 13) U := h.2.2.2.2.2.2.2.2.2.2.2.2.2.2.2.2.2.2.2.2.2.2.2.2.2.2.2.2.1
theorem zz_r14 {za zk zv : Nat → Nat} {A : Nat → Prop} {U : State} (h : zz za zk zv A U) : vk_R "WindowMachine" 89 "the processor has halted" (zk 14) U := h.2.2.2.2.2.2.2.2.2.2.2.2.2.2.2.2.2.2.2.2.2.2.2.2.2.2.2.2.2.1
theorem zz_r15 {za zk zv : Nat → Nat} {A : Nat → Prop} {U : State} (h : zz za zk zv A U) : vk_R "WindowMachine" 141 "there is no such register" (zk 15) U := h.2.2.2.2.2.2.2.2.2.2.2.2.2.2.2.2.2.2.2.2.2.2.2.2.2.2.2.2.2.2.1
theorem zz_r16 {za zk zv : Nat → Nat} {A : Nat → Prop} {U : State} (h : zz za zk zv A U) : vk_R "WindowMachine" 122 "the state has no such part" (zk 16) U := h.2.2.2.2.2.2.2.2.2.2.2.2.2.2.2.2.2.2.2.2.2.2.2.2.2.2.2.2.2.2.2.1
theorem zz_r17 {za zk zv : Nat → Nat} {A : Nat → Prop} {U : State} (h : zz za zk zv A U) : vk_R "WindowMachine" 128 "flags or invalid is not 0 to 15, or mode not 0 to 7" (zk 17) U := h.2.2.2.2.2.2.2.2.2.2.2.2.2.2.2.2.2.2.2.2.2.2.2.2.2.2.2.2.2.2.2.2
theorem zz_bl {za zk zv : Nat → Nat} {A : Nat → Prop} : zw_bl (zz za zk zv A) := fun U V hh hv h => by
  have ha : U.vm.Alike V.vm := by rw [hv]; exact Vm.Alike.refl _
  exact ⟨va_Nw.same rfl hv (zz_n45 h), va_Nw.same rfl hv (zz_n49 h), va_Nw.same rfl hv (zz_n81 h), va_Nw.same rfl hv (zz_n86 h), va_Nw.same rfl hv (zz_n88 h), va_Nw.same rfl hv (zz_n118 h), va_Nw.same rfl hv (zz_n121 h), va_Nw.same rfl hv (zz_n134 h), (by rw [hh]; exact va_Z.moved ha (zz_octZ h)), (by rw [hh]; exact va_T.moved ha (zz_octT h)), (by rw [hh]; exact va_Z.moved ha (zz_cs h)), (by rw [hh]; exact va_Zq.moved ha (zz_sio h)), (by rw [hh]; exact vx_Zq.moved ha (zz_us h)), (by rw [hh]; exact vx_Zq.moved ha (zz_ss h)), (by rw [hh]; exact vk_S.moved ha (zz_st h)), vk_R.same hv.symm (zz_r0 h), vk_R.same hv.symm (zz_r1 h), vk_R.same hv.symm (zz_r2 h), vk_R.same hv.symm (zz_r3 h), vk_R.same hv.symm (zz_r4 h), vk_R.same hv.symm (zz_r5 h), vk_R.same hv.symm (zz_r6 h), vk_R.same hv.symm (zz_r7 h), vk_R.same hv.symm (zz_r8 h), vk_R.same hv.symm (zz_r9 h), vk_R.same hv.symm (zz_r10 h), vk_R.same hv.symm (zz_r11 h), vk_R.same hv.symm (zz_r12 h), vk_R.same hv.symm (zz_r13 h), vk_R.same hv.symm (zz_r14 h), vk_R.same hv.symm (zz_r15 h), vk_R.same hv.symm (zz_r16 h), vk_R.same hv.symm (zz_r17 h)⟩
theorem zz_go {za zk zv : Nat → Nat} {A B : Nat → Prop} {s U : State} {H : Heap} {locs : List Loc} (h : zz za zk zv A s) (hS : va_S A s.heap H locs) (hB : ∀ q, B q → A q) (hU : U.heap = H) (hW : s.WarmedH U.vm) : zz za zk zv B U := by
  exact ⟨va_Nw.warmF hW (zz_n45 h), va_Nw.warmF hW (zz_n49 h), va_Nw.warmM hW (zz_n81 h), va_Nw.warmF hW (zz_n86 h), va_Nw.warmF hW (zz_n88 h), va_Nw.warmF hW (zz_n118 h), va_Nw.warmF hW (zz_n121 h), va_Nw.warmF hW (zz_n134 h), (by rw [hU]; exact va_Z.narrow (va_Z.moved hW.alike (va_Z.kept (zz_octZ h) hS.2.1)) hB), (by rw [hU]; exact va_T.narrow (va_T.moved hW.alike (va_T.kept (zz_octT h) hS.2.1)) hB), (by rw [hU]; exact va_Z.narrow (va_Z.moved hW.alike (va_Z.kept (zz_cs h) hS.2.1)) hB), (by rw [hU]; exact va_Zq.narrow (va_Zq.moved hW.alike (va_Zq.kept (zz_sio h) hS.2.1)) hB), (by rw [hU]; exact vx_Zq.narrow (vx_Zq.moved hW.alike (vx_Zq.kept (zz_us h) hS.2.1)) hB), (by rw [hU]; exact vx_Zq.narrow (vx_Zq.moved hW.alike (vx_Zq.kept (zz_ss h) hS.2.1)) hB), (by rw [hU]; exact vk_S.narrow (vk_S.moved hW.alike (vk_S.kept (zz_st h) hS.2.1)) hB), vk_R.warm hW (zz_r0 h), vk_R.warm hW (zz_r1 h), vk_R.warm hW (zz_r2 h), vk_R.warm hW (zz_r3 h), vk_R.warm hW (zz_r4 h), vk_R.warm hW (zz_r5 h), vk_R.warm hW (zz_r6 h), vk_R.warm hW (zz_r7 h), vk_R.warm hW (zz_r8 h), vk_R.warm hW (zz_r9 h), vk_R.warm hW (zz_r10 h), vk_R.warm hW (zz_r11 h), vk_R.warm hW (zz_r12 h), vk_R.warm hW (zz_r13 h), vk_R.warm hW (zz_r14 h), vk_R.warm hW (zz_r15 h), vk_R.warm hW (zz_r16 h), vk_R.warm hW (zz_r17 h)⟩
theorem d_P_rdOf_0 : decode c_P_rdOf 0 = .ok (.iload_n 0, 1) := by decide +kernel
theorem d_P_rdOf_1 : decode c_P_rdOf 1 = .ok (.bipush 25, 2) := by decide +kernel
theorem d_P_rdOf_3 : decode c_P_rdOf 3 = .ok (.iushr, 1) := by decide +kernel
theorem d_P_rdOf_4 : decode c_P_rdOf 4 = .ok (.bipush 31, 2) := by decide +kernel
theorem d_P_rdOf_6 : decode c_P_rdOf 6 = .ok (.iand, 1) := by decide +kernel
theorem d_P_rdOf_7 : decode c_P_rdOf 7 = .ok (.ireturn, 1) := by decide +kernel
theorem kd_P_rdOf : (y_P_rdOf).cls = "WindowMachine$Processor" ∧ (y_P_rdOf).cls ≠ "java/lang/invoke/MethodHandle" ∧ (y_P_rdOf).cls ≠ "java/lang/invoke/VarHandle" ∧ (parseMethodDescriptor (y_P_rdOf).desc).map (fun d => d.parameters.length) = some 1 := by decide +kernel
def f_rdOf (p0 : Int32) : Int32 := (zushr p0 (25 : Int32)) &&& (31 : Int32)
set_option maxHeartbeats 4000000 in
set_option maxRecDepth 100000 in
theorem mt_P_rdOf (l : Launch) (D : va_G) (sz : Nat) (p0 : Int32) : Met l y_P_rdOf w_P_rdOf ({ frames := 0, cells := 0, slots := 0, locals := 0 }) (va_Pc [.int p0] (zw_pre D vwCl [] sz ([]) (fun _ => True))) (va_Qi (fun r (_ : Unit) => r = f_rdOf p0) (fun u t => zw_at D vwCl (va_A ([]) sz) ((fun (_ : Unit) => []) u) t) (va_A ([]) sz)) 0 0 (va_A ([]) sz) := by
  refine zm (Qf := fun A => va_Qi (fun r (_ : Unit) => r = f_rdOf p0) (fun u t => zw_at D vwCl A ((fun (_ : Unit) => []) u) t) A) (Zf := fun _ _ => True) (cc := c_P_rdOf) (nL := 1) (ret := (some .int)) (by decide) rfl (Nat.le_of_ble_eq_true rfl) ?_
  intro p e s m below meth c9 A H locs ls hx hb hml hown hts hr hlocks hA hK hP hD hS hZ hl
  have hl : lv_has ls 1 [(0, .int p0)] := hl
  have ht : ∀ w9 ∈ zT, w9.before _ s = true := fun w9 h9 => hts w9 (List.mem_cons_of_mem _ h9)
  refine lv_iload_n hx hb d_P_rdOf_0 rfl (lv_at hl 0 rfl) ?_
  refine lv_bipush (v := (25 : Int32)) hx hb d_P_rdOf_1 (by decide) ?_
  refine lv_iushr (v := zushr p0 (25 : Int32)) hx hb d_P_rdOf_3 rfl ?_
  refine lv_bipush (v := (31 : Int32)) hx hb d_P_rdOf_4 (by decide) ?_
  refine lv_iand hx hb d_P_rdOf_6 ?_
  exact zl_i (u := ()) hx hb hr hlocks hS hP hD (by simp only [f_rdOf]) d_P_rdOf_7
theorem d_P_conditionOf_0 : decode c_P_conditionOf 0 = .ok (.iload_n 0, 1) := by decide +kernel
theorem d_P_conditionOf_1 : decode c_P_conditionOf 1 = .ok (.bipush 25, 2) := by decide +kernel
theorem d_P_conditionOf_3 : decode c_P_conditionOf 3 = .ok (.iushr, 1) := by decide +kernel
theorem d_P_conditionOf_4 : decode c_P_conditionOf 4 = .ok (.bipush 15, 2) := by decide +kernel
theorem d_P_conditionOf_6 : decode c_P_conditionOf 6 = .ok (.iand, 1) := by decide +kernel
theorem d_P_conditionOf_7 : decode c_P_conditionOf 7 = .ok (.ireturn, 1) := by decide +kernel
theorem kd_P_conditionOf : (y_P_conditionOf).cls = "WindowMachine$Processor" ∧ (y_P_conditionOf).cls ≠ "java/lang/invoke/MethodHandle" ∧ (y_P_conditionOf).cls ≠ "java/lang/invoke/VarHandle" ∧ (parseMethodDescriptor (y_P_conditionOf).desc).map (fun d => d.parameters.length) = some 1 := by decide +kernel
def f_conditionOf (p0 : Int32) : Int32 := (zushr p0 (25 : Int32)) &&& (15 : Int32)
set_option maxHeartbeats 4000000 in
set_option maxRecDepth 100000 in
theorem mt_P_conditionOf (l : Launch) (D : va_G) (sz : Nat) (p0 : Int32) : Met l y_P_conditionOf w_P_conditionOf ({ frames := 0, cells := 0, slots := 0, locals := 0 }) (va_Pc [.int p0] (zw_pre D vwCl [] sz ([]) (fun _ => True))) (va_Qi (fun r (_ : Unit) => r = f_conditionOf p0) (fun u t => zw_at D vwCl (va_A ([]) sz) ((fun (_ : Unit) => []) u) t) (va_A ([]) sz)) 0 0 (va_A ([]) sz) := by
  refine zm (Qf := fun A => va_Qi (fun r (_ : Unit) => r = f_conditionOf p0) (fun u t => zw_at D vwCl A ((fun (_ : Unit) => []) u) t) A) (Zf := fun _ _ => True) (cc := c_P_conditionOf) (nL := 1) (ret := (some .int)) (by decide) rfl (Nat.le_of_ble_eq_true rfl) ?_
  intro p e s m below meth c9 A H locs ls hx hb hml hown hts hr hlocks hA hK hP hD hS hZ hl
  have hl : lv_has ls 1 [(0, .int p0)] := hl
  have ht : ∀ w9 ∈ zT, w9.before _ s = true := fun w9 h9 => hts w9 (List.mem_cons_of_mem _ h9)
  refine lv_iload_n hx hb d_P_conditionOf_0 rfl (lv_at hl 0 rfl) ?_
  refine lv_bipush (v := (25 : Int32)) hx hb d_P_conditionOf_1 (by decide) ?_
  refine lv_iushr (v := zushr p0 (25 : Int32)) hx hb d_P_conditionOf_3 rfl ?_
  refine lv_bipush (v := (15 : Int32)) hx hb d_P_conditionOf_4 (by decide) ?_
  refine lv_iand hx hb d_P_conditionOf_6 ?_
  exact zl_i (u := ()) hx hb hr hlocks hS hP hD (by simp only [f_conditionOf]) d_P_conditionOf_7
theorem d_P_op3Of_0 : decode c_P_op3Of 0 = .ok (.iload_n 0, 1) := by decide +kernel
theorem d_P_op3Of_1 : decode c_P_op3Of 1 = .ok (.bipush 19, 2) := by decide +kernel
theorem d_P_op3Of_3 : decode c_P_op3Of 3 = .ok (.iushr, 1) := by decide +kernel
theorem d_P_op3Of_4 : decode c_P_op3Of 4 = .ok (.bipush 63, 2) := by decide +kernel
theorem d_P_op3Of_6 : decode c_P_op3Of 6 = .ok (.iand, 1) := by decide +kernel
theorem d_P_op3Of_7 : decode c_P_op3Of 7 = .ok (.ireturn, 1) := by decide +kernel
theorem kd_P_op3Of : (y_P_op3Of).cls = "WindowMachine$Processor" ∧ (y_P_op3Of).cls ≠ "java/lang/invoke/MethodHandle" ∧ (y_P_op3Of).cls ≠ "java/lang/invoke/VarHandle" ∧ (parseMethodDescriptor (y_P_op3Of).desc).map (fun d => d.parameters.length) = some 1 := by decide +kernel
def f_op3Of (p0 : Int32) : Int32 := (zushr p0 (19 : Int32)) &&& (63 : Int32)
set_option maxHeartbeats 4000000 in
set_option maxRecDepth 100000 in
theorem mt_P_op3Of (l : Launch) (D : va_G) (sz : Nat) (p0 : Int32) : Met l y_P_op3Of w_P_op3Of ({ frames := 0, cells := 0, slots := 0, locals := 0 }) (va_Pc [.int p0] (zw_pre D vwCl [] sz ([]) (fun _ => True))) (va_Qi (fun r (_ : Unit) => r = f_op3Of p0) (fun u t => zw_at D vwCl (va_A ([]) sz) ((fun (_ : Unit) => []) u) t) (va_A ([]) sz)) 0 0 (va_A ([]) sz) := by
  refine zm (Qf := fun A => va_Qi (fun r (_ : Unit) => r = f_op3Of p0) (fun u t => zw_at D vwCl A ((fun (_ : Unit) => []) u) t) A) (Zf := fun _ _ => True) (cc := c_P_op3Of) (nL := 1) (ret := (some .int)) (by decide) rfl (Nat.le_of_ble_eq_true rfl) ?_
  intro p e s m below meth c9 A H locs ls hx hb hml hown hts hr hlocks hA hK hP hD hS hZ hl
  have hl : lv_has ls 1 [(0, .int p0)] := hl
  have ht : ∀ w9 ∈ zT, w9.before _ s = true := fun w9 h9 => hts w9 (List.mem_cons_of_mem _ h9)
  refine lv_iload_n hx hb d_P_op3Of_0 rfl (lv_at hl 0 rfl) ?_
  refine lv_bipush (v := (19 : Int32)) hx hb d_P_op3Of_1 (by decide) ?_
  refine lv_iushr (v := zushr p0 (19 : Int32)) hx hb d_P_op3Of_3 rfl ?_
  refine lv_bipush (v := (63 : Int32)) hx hb d_P_op3Of_4 (by decide) ?_
  refine lv_iand hx hb d_P_op3Of_6 ?_
  exact zl_i (u := ()) hx hb hr hlocks hS hP hD (by simp only [f_op3Of]) d_P_op3Of_7
theorem d_P_rs1Of_0 : decode c_P_rs1Of 0 = .ok (.iload_n 0, 1) := by decide +kernel
theorem d_P_rs1Of_1 : decode c_P_rs1Of 1 = .ok (.bipush 14, 2) := by decide +kernel
theorem d_P_rs1Of_3 : decode c_P_rs1Of 3 = .ok (.iushr, 1) := by decide +kernel
theorem d_P_rs1Of_4 : decode c_P_rs1Of 4 = .ok (.bipush 31, 2) := by decide +kernel
theorem d_P_rs1Of_6 : decode c_P_rs1Of 6 = .ok (.iand, 1) := by decide +kernel
theorem d_P_rs1Of_7 : decode c_P_rs1Of 7 = .ok (.ireturn, 1) := by decide +kernel
theorem kd_P_rs1Of : (y_P_rs1Of).cls = "WindowMachine$Processor" ∧ (y_P_rs1Of).cls ≠ "java/lang/invoke/MethodHandle" ∧ (y_P_rs1Of).cls ≠ "java/lang/invoke/VarHandle" ∧ (parseMethodDescriptor (y_P_rs1Of).desc).map (fun d => d.parameters.length) = some 1 := by decide +kernel
def f_rs1Of (p0 : Int32) : Int32 := (zushr p0 (14 : Int32)) &&& (31 : Int32)
set_option maxHeartbeats 4000000 in
set_option maxRecDepth 100000 in
theorem mt_P_rs1Of (l : Launch) (D : va_G) (sz : Nat) (p0 : Int32) : Met l y_P_rs1Of w_P_rs1Of ({ frames := 0, cells := 0, slots := 0, locals := 0 }) (va_Pc [.int p0] (zw_pre D vwCl [] sz ([]) (fun _ => True))) (va_Qi (fun r (_ : Unit) => r = f_rs1Of p0) (fun u t => zw_at D vwCl (va_A ([]) sz) ((fun (_ : Unit) => []) u) t) (va_A ([]) sz)) 0 0 (va_A ([]) sz) := by
  refine zm (Qf := fun A => va_Qi (fun r (_ : Unit) => r = f_rs1Of p0) (fun u t => zw_at D vwCl A ((fun (_ : Unit) => []) u) t) A) (Zf := fun _ _ => True) (cc := c_P_rs1Of) (nL := 1) (ret := (some .int)) (by decide) rfl (Nat.le_of_ble_eq_true rfl) ?_
  intro p e s m below meth c9 A H locs ls hx hb hml hown hts hr hlocks hA hK hP hD hS hZ hl
  have hl : lv_has ls 1 [(0, .int p0)] := hl
  have ht : ∀ w9 ∈ zT, w9.before _ s = true := fun w9 h9 => hts w9 (List.mem_cons_of_mem _ h9)
  refine lv_iload_n hx hb d_P_rs1Of_0 rfl (lv_at hl 0 rfl) ?_
  refine lv_bipush (v := (14 : Int32)) hx hb d_P_rs1Of_1 (by decide) ?_
  refine lv_iushr (v := zushr p0 (14 : Int32)) hx hb d_P_rs1Of_3 rfl ?_
  refine lv_bipush (v := (31 : Int32)) hx hb d_P_rs1Of_4 (by decide) ?_
  refine lv_iand hx hb d_P_rs1Of_6 ?_
  exact zl_i (u := ()) hx hb hr hlocks hS hP hD (by simp only [f_rs1Of]) d_P_rs1Of_7
theorem d_P_windowBelow_0 : decode c_P_windowBelow 0 = .ok (.aload_n 0, 1) := by decide +kernel
theorem d_P_windowBelow_1 : decode c_P_windowBelow 1 = .ok (.getfield 36, 3) := by decide +kernel
theorem d_P_windowBelow_4 : decode c_P_windowBelow 4 = .ok (.iconst 4, 1) := by decide +kernel
theorem d_P_windowBelow_5 : decode c_P_windowBelow 5 = .ok (.iadd, 1) := by decide +kernel
theorem d_P_windowBelow_6 : decode c_P_windowBelow 6 = .ok (.iconst 1, 1) := by decide +kernel
theorem d_P_windowBelow_7 : decode c_P_windowBelow 7 = .ok (.isub, 1) := by decide +kernel
theorem d_P_windowBelow_8 : decode c_P_windowBelow 8 = .ok (.iconst 4, 1) := by decide +kernel
theorem d_P_windowBelow_9 : decode c_P_windowBelow 9 = .ok (.irem, 1) := by decide +kernel
theorem d_P_windowBelow_10 : decode c_P_windowBelow 10 = .ok (.ireturn, 1) := by decide +kernel
theorem kd_P_windowBelow : (y_P_windowBelow).cls = "WindowMachine$Processor" ∧ (y_P_windowBelow).cls ≠ "java/lang/invoke/MethodHandle" ∧ (y_P_windowBelow).cls ≠ "java/lang/invoke/VarHandle" ∧ (parseMethodDescriptor (y_P_windowBelow).desc).map (fun d => d.parameters.length) = some 0 := by decide +kernel
def f_windowBelow (st : SP) : Int32 := (((st.1 0) + (4 : Int32)) - (1 : Int32)) - (((st.1 0) + (4 : Int32)) - (1 : Int32)) / (4 : Int32) * (4 : Int32)
set_option maxHeartbeats 4000000 in
set_option maxRecDepth 100000 in
theorem mt_P_windowBelow (l : Launch) (D : va_G) (h : Nat → Nat) (c : Nat → ClassId) (sz : Nat) (st : SP) : Met l y_P_windowBelow w_P_windowBelow ({ frames := 0, cells := 0, slots := 0, locals := 0 }) (va_Pc [.ref (h 0)] (zw_pre D vwCl [(c 0, .int), (c 1, .int)] sz (wP h c st) (fun _ => True))) (va_Qi (fun r (_ : Unit) => r = f_windowBelow st) (fun u t => zw_at D vwCl (va_A (wP h c st) sz) ((fun (_ : Unit) => wP h c st) u) t) (va_A (wP h c st) sz)) 0 0 (va_A (wP h c st) sz) := by
  refine zm (Qf := fun A => va_Qi (fun r (_ : Unit) => r = f_windowBelow st) (fun u t => zw_at D vwCl A ((fun (_ : Unit) => wP h c st) u) t) A) (Zf := fun _ _ => True) (cc := c_P_windowBelow) (nL := 1) (ret := (some .int)) (by decide) rfl (Nat.le_of_ble_eq_true rfl) ?_
  intro p e s m below meth c9 A H locs ls hx hb hml hown hts hr hlocks hA hK hP hD hS hZ hl
  have hl : lv_has ls 1 [(0, .ref (h 0))] := hl
  have ht : ∀ w9 ∈ zT, w9.before _ s = true := fun w9 h9 => hts w9 (List.mem_cons_of_mem _ h9)
  refine lv_aload_n hx hb d_P_windowBelow_0 rfl (lv_at hl 0 rfl) ?_
  refine va_get (D := D) (ci := 2) (v := .int (st.1 0)) (C := "WindowMachine$Processor") (T := T_P) (N := 18) hx hb ht zi_P hown hK hP 0 rfl rfl 3 (by decide) (ht _ zw_120) (fun _ h9 => h9) rfl d_P_windowBelow_1 ?_
  refine lv_iconst (v := (4 : Int32)) hx hb d_P_windowBelow_4 (by decide) ?_
  refine lv_iadd hx hb d_P_windowBelow_5 ?_
  refine lv_iconst (v := (1 : Int32)) hx hb d_P_windowBelow_6 (by decide) ?_
  refine lv_isub hx hb d_P_windowBelow_7 ?_
  refine lv_iconst (v := (4 : Int32)) hx hb d_P_windowBelow_8 (by decide) ?_
  refine lv_irem hx hb d_P_windowBelow_9 (by decide) ?_
  exact zl_i (u := ()) hx hb hr hlocks hS hP hD (by simp only [f_windowBelow]) d_P_windowBelow_10
theorem d_P_windowAbove_0 : decode c_P_windowAbove 0 = .ok (.aload_n 0, 1) := by decide +kernel
theorem d_P_windowAbove_1 : decode c_P_windowAbove 1 = .ok (.getfield 36, 3) := by decide +kernel
theorem d_P_windowAbove_4 : decode c_P_windowAbove 4 = .ok (.iconst 1, 1) := by decide +kernel
theorem d_P_windowAbove_5 : decode c_P_windowAbove 5 = .ok (.iadd, 1) := by decide +kernel
theorem d_P_windowAbove_6 : decode c_P_windowAbove 6 = .ok (.iconst 4, 1) := by decide +kernel
theorem d_P_windowAbove_7 : decode c_P_windowAbove 7 = .ok (.irem, 1) := by decide +kernel
theorem d_P_windowAbove_8 : decode c_P_windowAbove 8 = .ok (.ireturn, 1) := by decide +kernel
theorem kd_P_windowAbove : (y_P_windowAbove).cls = "WindowMachine$Processor" ∧ (y_P_windowAbove).cls ≠ "java/lang/invoke/MethodHandle" ∧ (y_P_windowAbove).cls ≠ "java/lang/invoke/VarHandle" ∧ (parseMethodDescriptor (y_P_windowAbove).desc).map (fun d => d.parameters.length) = some 0 := by decide +kernel
def f_windowAbove (st : SP) : Int32 := ((st.1 0) + (1 : Int32)) - ((st.1 0) + (1 : Int32)) / (4 : Int32) * (4 : Int32)
set_option maxHeartbeats 4000000 in
set_option maxRecDepth 100000 in
theorem mt_P_windowAbove (l : Launch) (D : va_G) (h : Nat → Nat) (c : Nat → ClassId) (sz : Nat) (st : SP) : Met l y_P_windowAbove w_P_windowAbove ({ frames := 0, cells := 0, slots := 0, locals := 0 }) (va_Pc [.ref (h 0)] (zw_pre D vwCl [(c 0, .int), (c 1, .int)] sz (wP h c st) (fun _ => True))) (va_Qi (fun r (_ : Unit) => r = f_windowAbove st) (fun u t => zw_at D vwCl (va_A (wP h c st) sz) ((fun (_ : Unit) => wP h c st) u) t) (va_A (wP h c st) sz)) 0 0 (va_A (wP h c st) sz) := by
  refine zm (Qf := fun A => va_Qi (fun r (_ : Unit) => r = f_windowAbove st) (fun u t => zw_at D vwCl A ((fun (_ : Unit) => wP h c st) u) t) A) (Zf := fun _ _ => True) (cc := c_P_windowAbove) (nL := 1) (ret := (some .int)) (by decide) rfl (Nat.le_of_ble_eq_true rfl) ?_
  intro p e s m below meth c9 A H locs ls hx hb hml hown hts hr hlocks hA hK hP hD hS hZ hl
  have hl : lv_has ls 1 [(0, .ref (h 0))] := hl
  have ht : ∀ w9 ∈ zT, w9.before _ s = true := fun w9 h9 => hts w9 (List.mem_cons_of_mem _ h9)
  refine lv_aload_n hx hb d_P_windowAbove_0 rfl (lv_at hl 0 rfl) ?_
  refine va_get (D := D) (ci := 2) (v := .int (st.1 0)) (C := "WindowMachine$Processor") (T := T_P) (N := 18) hx hb ht zi_P hown hK hP 0 rfl rfl 3 (by decide) (ht _ zw_120) (fun _ h9 => h9) rfl d_P_windowAbove_1 ?_
  refine lv_iconst (v := (1 : Int32)) hx hb d_P_windowAbove_4 (by decide) ?_
  refine lv_iadd hx hb d_P_windowAbove_5 ?_
  refine lv_iconst (v := (4 : Int32)) hx hb d_P_windowAbove_6 (by decide) ?_
  refine lv_irem hx hb d_P_windowAbove_7 (by decide) ?_
  exact zl_i (u := ()) hx hb hr hlocks hS hP hD (by simp only [f_windowAbove]) d_P_windowAbove_8
theorem rd_in (w : Int32) : vp_in (f_rdOf w) 32 := pk_andIn _ 5 (by decide) (by decide)
theorem rs1_in (w : Int32) : vp_in (f_rs1Of w) 32 := pk_andIn _ 5 (by decide) (by decide)
theorem a31_in (w : Int32) : vp_in (w &&& (31 : Int32)) 32 := pk_andIn _ 5 (by decide) (by decide)
theorem wb_in {st : SP} (h : vp_in (st.1 0) 4) : vp_in (f_windowBelow st) 4 := by
  unfold f_windowBelow
  generalize st.1 0 = x at h ⊢
  obtain ⟨i, hi, rfl⟩ := vp_in_of h (by omega)
  have q : ∀ i : Fin 4, ¬ (((nI i + 4) - 1) - ((nI i + 4) - 1) / 4 * 4 < 0 ∨ 4 ≤ (((nI i + 4) - 1) - ((nI i + 4) - 1) / 4 * 4).toNatClampNeg) := by decide +kernel
  exact q ⟨i, hi⟩
theorem wa_in {st : SP} (h : vp_in (st.1 0) 4) : vp_in (f_windowAbove st) 4 := by
  unfold f_windowAbove
  generalize st.1 0 = x at h ⊢
  obtain ⟨i, hi, rfl⟩ := vp_in_of h (by omega)
  have q : ∀ i : Fin 4, ¬ ((nI i + 1) - (nI i + 1) / 4 * 4 < 0 ∨ 4 ≤ ((nI i + 1) - (nI i + 1) / 4 * 4).toNatClampNeg) := by decide +kernel
  exact q ⟨i, hi⟩
theorem d_P_isInvalid_0 : decode c_P_isInvalid 0 = .ok (.aload_n 0, 1) := by decide +kernel
theorem d_P_isInvalid_1 : decode c_P_isInvalid 1 = .ok (.getfield 69, 3) := by decide +kernel
theorem d_P_isInvalid_4 : decode c_P_isInvalid 4 = .ok (.iload_n 1, 1) := by decide +kernel
theorem d_P_isInvalid_5 : decode c_P_isInvalid 5 = .ok (.iushr, 1) := by decide +kernel
theorem d_P_isInvalid_6 : decode c_P_isInvalid 6 = .ok (.iconst 1, 1) := by decide +kernel
theorem d_P_isInvalid_7 : decode c_P_isInvalid 7 = .ok (.iand, 1) := by decide +kernel
theorem d_P_isInvalid_8 : decode c_P_isInvalid 8 = .ok (.iconst 1, 1) := by decide +kernel
theorem d_P_isInvalid_9 : decode c_P_isInvalid 9 = .ok (.if_icmp .ne 7, 3) := by decide +kernel
theorem d_P_isInvalid_12 : decode c_P_isInvalid 12 = .ok (.iconst 1, 1) := by decide +kernel
theorem d_P_isInvalid_13 : decode c_P_isInvalid 13 = .ok (.goto 4, 3) := by decide +kernel
theorem d_P_isInvalid_16 : decode c_P_isInvalid 16 = .ok (.iconst 0, 1) := by decide +kernel
theorem d_P_isInvalid_17 : decode c_P_isInvalid 17 = .ok (.ireturn, 1) := by decide +kernel
theorem kd_P_isInvalid : (y_P_isInvalid).cls = "WindowMachine$Processor" ∧ (y_P_isInvalid).cls ≠ "java/lang/invoke/MethodHandle" ∧ (y_P_isInvalid).cls ≠ "java/lang/invoke/VarHandle" ∧ (parseMethodDescriptor (y_P_isInvalid).desc).map (fun d => d.parameters.length) = some 1 := by decide +kernel
def f_isInvalid (st : SP) (p0 : Int32) : Int32 := (let x_1 := (if ((zushr (st.1 3) p0) &&& (1 : Int32)) = (1 : Int32) then (1 : Int32) else (0 : Int32)); x_1)
set_option maxHeartbeats 4000000 in
set_option maxRecDepth 100000 in
theorem mt_P_isInvalid (l : Launch) (D : va_G) (h : Nat → Nat) (c : Nat → ClassId) (sz : Nat) (st : SP) (p0 : Int32) : Met l y_P_isInvalid w_P_isInvalid ({ frames := 0, cells := 0, slots := 0, locals := 0 }) (va_Pc [.ref (h 0), .int p0] (zw_pre D vwCl [(c 0, .int), (c 1, .int)] sz (wP h c st) (fun _ => True))) (va_Qi (fun r (_ : Unit) => r = f_isInvalid st p0) (fun u t => zw_at D vwCl (va_A (wP h c st) sz) ((fun (_ : Unit) => wP h c st) u) t) (va_A (wP h c st) sz)) 0 0 (va_A (wP h c st) sz) := by
  refine zm (Qf := fun A => va_Qi (fun r (_ : Unit) => r = f_isInvalid st p0) (fun u t => zw_at D vwCl A ((fun (_ : Unit) => wP h c st) u) t) A) (Zf := fun _ _ => True) (cc := c_P_isInvalid) (nL := 2) (ret := (some .boolean)) (by decide) rfl (Nat.le_of_ble_eq_true rfl) ?_
  intro p e s m below meth c9 A H locs ls hx hb hml hown hts hr hlocks hA hK hP hD hS hZ hl
  have hl : lv_has ls 2 [(0, .ref (h 0)), (1, .int p0)] := hl
  have ht : ∀ w9 ∈ zT, w9.before _ s = true := fun w9 h9 => hts w9 (List.mem_cons_of_mem _ h9)
  refine lv_aload_n hx hb d_P_isInvalid_0 rfl (lv_at hl 0 rfl) ?_
  refine va_get (D := D) (ci := 2) (v := .int (st.1 3)) (C := "WindowMachine$Processor") (T := T_P) (N := 18) hx hb ht zi_P hown hK hP 0 rfl rfl 6 (by decide) (ht _ zw_124) (fun _ h9 => h9) rfl d_P_isInvalid_1 ?_
  refine lv_iload_n hx hb d_P_isInvalid_4 rfl (lv_at hl 1 rfl) ?_
  refine lv_iushr (v := zushr (st.1 3) p0) hx hb d_P_isInvalid_5 rfl ?_
  refine lv_iconst (v := (1 : Int32)) hx hb d_P_isInvalid_6 (by decide) ?_
  refine lv_iand hx hb d_P_isInvalid_7 ?_
  refine lv_iconst (v := (1 : Int32)) hx hb d_P_isInvalid_8 (by decide) ?_
  refine zcut (X := Int32) (G := fun v9 H locs ls => v9 = (if ((zushr (st.1 3) p0) &&& (1 : Int32)) = (1 : Int32) then (1 : Int32) else (0 : Int32)) ∧ va_P D vwCl (wP h c st) H ∧ va_D A (wP h c st) ∧ va_S A s.heap H locs ∧ lv_has ls 2 [(0, .ref (h 0)), (1, .int p0)]) (fr := fun v9 ls => F0 m 17 ls [.int v9]) (fun J_2 => ?_) (fun v9 H locs ls hG => ?_)
  · refine lv_icmp_ne (tgt := 16) hx hb d_P_isInvalid_9 (by decide) (fun c_3 => ?_) (fun c_3 => ?_)
    · refine lv_iconst (v := (0 : Int32)) hx hb d_P_isInvalid_16 (by decide) ?_
      exact J_2 (0 : Int32) _ _ _ ⟨by simp only [if_neg c_3], hP, hD, hS, hl⟩
    refine lv_iconst (v := (1 : Int32)) hx hb d_P_isInvalid_12 (by decide) ?_
    refine lv_goto (tgt := 17) hx hb d_P_isInvalid_13 (by decide) ?_
    exact J_2 (1 : Int32) _ _ _ ⟨by simp only [if_pos c_3], hP, hD, hS, hl⟩
  obtain ⟨x_1, rfl⟩ : ∃ z, z = v9 := ⟨_, rfl⟩
  obtain ⟨ex_1, hP, hD, hS, hl⟩ := hG
  have zbx_1 : zB x_1 := by rw [ex_1]; repeat' first | exact zB0 | exact zB1 | assumption | apply zB_ite
  exact zl_z (u := ()) hx hb hr (zbx_1).n hlocks hS hP hD (by subst ex_1; simp only [f_isInvalid]) d_P_isInvalid_17
theorem d_P_hasHalted_0 : decode c_P_hasHalted 0 = .ok (.aload_n 0, 1) := by decide +kernel
theorem d_P_hasHalted_1 : decode c_P_hasHalted 1 = .ok (.getfield 54, 3) := by decide +kernel
theorem d_P_hasHalted_4 : decode c_P_hasHalted 4 = .ok (.iconst (-1), 1) := by decide +kernel
theorem d_P_hasHalted_5 : decode c_P_hasHalted 5 = .ok (.if_icmp .eq 7, 3) := by decide +kernel
theorem d_P_hasHalted_8 : decode c_P_hasHalted 8 = .ok (.iconst 1, 1) := by decide +kernel
theorem d_P_hasHalted_9 : decode c_P_hasHalted 9 = .ok (.goto 4, 3) := by decide +kernel
theorem d_P_hasHalted_12 : decode c_P_hasHalted 12 = .ok (.iconst 0, 1) := by decide +kernel
theorem d_P_hasHalted_13 : decode c_P_hasHalted 13 = .ok (.ireturn, 1) := by decide +kernel
theorem kd_P_hasHalted : (y_P_hasHalted).cls = "WindowMachine$Processor" ∧ (y_P_hasHalted).cls ≠ "java/lang/invoke/MethodHandle" ∧ (y_P_hasHalted).cls ≠ "java/lang/invoke/VarHandle" ∧ (parseMethodDescriptor (y_P_hasHalted).desc).map (fun d => d.parameters.length) = some 0 := by decide +kernel
def f_hasHalted (st : SP) : Int32 := (let x_1 := (if (st.1 12) = (-1 : Int32) then (0 : Int32) else (1 : Int32)); x_1)
set_option maxHeartbeats 4000000 in
set_option maxRecDepth 100000 in
theorem mt_P_hasHalted (l : Launch) (D : va_G) (h : Nat → Nat) (c : Nat → ClassId) (sz : Nat) (st : SP) : Met l y_P_hasHalted w_P_hasHalted ({ frames := 0, cells := 0, slots := 0, locals := 0 }) (va_Pc [.ref (h 0)] (zw_pre D vwCl [(c 0, .int), (c 1, .int)] sz (wP h c st) (fun _ => True))) (va_Qi (fun r (_ : Unit) => r = f_hasHalted st) (fun u t => zw_at D vwCl (va_A (wP h c st) sz) ((fun (_ : Unit) => wP h c st) u) t) (va_A (wP h c st) sz)) 0 0 (va_A (wP h c st) sz) := by
  refine zm (Qf := fun A => va_Qi (fun r (_ : Unit) => r = f_hasHalted st) (fun u t => zw_at D vwCl A ((fun (_ : Unit) => wP h c st) u) t) A) (Zf := fun _ _ => True) (cc := c_P_hasHalted) (nL := 1) (ret := (some .boolean)) (by decide) rfl (Nat.le_of_ble_eq_true rfl) ?_
  intro p e s m below meth c9 A H locs ls hx hb hml hown hts hr hlocks hA hK hP hD hS hZ hl
  have hl : lv_has ls 1 [(0, .ref (h 0))] := hl
  have ht : ∀ w9 ∈ zT, w9.before _ s = true := fun w9 h9 => hts w9 (List.mem_cons_of_mem _ h9)
  refine lv_aload_n hx hb d_P_hasHalted_0 rfl (lv_at hl 0 rfl) ?_
  refine va_get (D := D) (ci := 2) (v := .int (st.1 12)) (C := "WindowMachine$Processor") (T := T_P) (N := 18) hx hb ht zi_P hown hK hP 0 rfl rfl 15 (by decide) (ht _ zw_133) (fun _ h9 => h9) rfl d_P_hasHalted_1 ?_
  refine lv_iconst (v := (-1 : Int32)) hx hb d_P_hasHalted_4 (by decide) ?_
  refine zcut (X := Int32) (G := fun v9 H locs ls => v9 = (if (st.1 12) = (-1 : Int32) then (0 : Int32) else (1 : Int32)) ∧ va_P D vwCl (wP h c st) H ∧ va_D A (wP h c st) ∧ va_S A s.heap H locs ∧ lv_has ls 1 [(0, .ref (h 0))]) (fr := fun v9 ls => F0 m 13 ls [.int v9]) (fun J_2 => ?_) (fun v9 H locs ls hG => ?_)
  · refine lv_icmp_eq (tgt := 12) hx hb d_P_hasHalted_5 (by decide) (fun c_3 => ?_) (fun c_3 => ?_)
    · refine lv_iconst (v := (0 : Int32)) hx hb d_P_hasHalted_12 (by decide) ?_
      exact J_2 (0 : Int32) _ _ _ ⟨by simp only [if_pos c_3], hP, hD, hS, hl⟩
    refine lv_iconst (v := (1 : Int32)) hx hb d_P_hasHalted_8 (by decide) ?_
    refine lv_goto (tgt := 13) hx hb d_P_hasHalted_9 (by decide) ?_
    exact J_2 (1 : Int32) _ _ _ ⟨by simp only [if_neg c_3], hP, hD, hS, hl⟩
  obtain ⟨x_1, rfl⟩ : ∃ z, z = v9 := ⟨_, rfl⟩
  obtain ⟨ex_1, hP, hD, hS, hl⟩ := hG
  have zbx_1 : zB x_1 := by rw [ex_1]; repeat' first | exact zB0 | exact zB1 | assumption | apply zB_ite
  exact zl_z (u := ()) hx hb hr (zbx_1).n hlocks hS hP hD (by subst ex_1; simp only [f_hasHalted]) d_P_hasHalted_13
theorem d_P_changeMode_0 : decode c_P_changeMode 0 = .ok (.aload_n 0, 1) := by decide +kernel
theorem d_P_changeMode_1 : decode c_P_changeMode 1 = .ok (.iload_n 1, 1) := by decide +kernel
theorem d_P_changeMode_2 : decode c_P_changeMode 2 = .ok (.putfield 79, 3) := by decide +kernel
theorem d_P_changeMode_5 : decode c_P_changeMode 5 = .ok (.aload_n 0, 1) := by decide +kernel
theorem d_P_changeMode_6 : decode c_P_changeMode 6 = .ok (.iload_n 2, 1) := by decide +kernel
theorem d_P_changeMode_7 : decode c_P_changeMode 7 = .ok (.putfield 82, 3) := by decide +kernel
theorem d_P_changeMode_10 : decode c_P_changeMode 10 = .ok (.aload_n 0, 1) := by decide +kernel
theorem d_P_changeMode_11 : decode c_P_changeMode 11 = .ok (.iload_n 3, 1) := by decide +kernel
theorem d_P_changeMode_12 : decode c_P_changeMode 12 = .ok (.putfield 85, 3) := by decide +kernel
theorem d_P_changeMode_15 : decode c_P_changeMode 15 = .ok (.return_, 1) := by decide +kernel
theorem kd_P_changeMode : (y_P_changeMode).cls = "WindowMachine$Processor" ∧ (y_P_changeMode).cls ≠ "java/lang/invoke/MethodHandle" ∧ (y_P_changeMode).cls ≠ "java/lang/invoke/VarHandle" ∧ (parseMethodDescriptor (y_P_changeMode).desc).map (fun d => d.parameters.length) = some 3 := by decide +kernel
def f_changeMode (st : SP) (p0 : Int32) (p1 : Int32) (p2 : Int32) : SP := (upd (upd (upd st.1 4 p0) 5 p1) 6 p2, st.2.1, st.2.2.1, st.2.2.2)
set_option maxHeartbeats 4000000 in
set_option maxRecDepth 100000 in
theorem mt_P_changeMode (l : Launch) (D : va_G) (h : Nat → Nat) (c : Nat → ClassId) (sz : Nat) (st : SP) (p0 : Int32) (p1 : Int32) (p2 : Int32) : Met l y_P_changeMode w_P_changeMode ({ frames := 0, cells := 0, slots := 0, locals := 0 }) (va_Pc [.ref (h 0), .int p0, .int p1, .int p2] (zw_pre D vwCl [(c 0, .int), (c 1, .int)] sz (wP h c st) (fun _ => True))) (va_Qv (fun (u : SP) => u = f_changeMode st p0 p1 p2) (fun u t => zw_at D vwCl (va_A (wP h c st) sz) ((fun (u : SP) => wP h c u) u) t) (va_A (wP h c st) sz)) 0 0 (va_A (wP h c st) sz) := by
  refine zm (Qf := fun A => va_Qv (fun (u : SP) => u = f_changeMode st p0 p1 p2) (fun u t => zw_at D vwCl A ((fun (u : SP) => wP h c u) u) t) A) (Zf := fun _ _ => True) (cc := c_P_changeMode) (nL := 4) (ret := none) (by decide) rfl (Nat.le_of_ble_eq_true rfl) ?_
  intro p e s m below meth c9 A H locs ls hx hb hml hown hts hr hlocks hA hK hP hD hS hZ hl
  have hl : lv_has ls 4 [(0, .ref (h 0)), (1, .int p0), (2, .int p1), (3, .int p2)] := hl
  have ht : ∀ w9 ∈ zT, w9.before _ s = true := fun w9 h9 => hts w9 (List.mem_cons_of_mem _ h9)
  refine lv_aload_n hx hb d_P_changeMode_0 rfl (lv_at hl 0 rfl) ?_
  refine lv_iload_n hx hb d_P_changeMode_1 rfl (lv_at hl 1 rfl) ?_
  refine va_put (D := D) (ci := 2) (v := .int p0) (ty := .int) (C := "WindowMachine$Processor") (T := T_P) (N := 18) hx hb ht zi_P ty_P tyok_P nm_P hown hK hP hD hS 0 rfl rfl 7 (by decide) (ht _ zw_125) (fun _ h9 => h9) rfl (by decide +kernel) rfl rfl (Nat.le_of_ble_eq_true rfl) d_P_changeMode_2 (fun H locs hP hD hS => ?_)
  have hP : va_P D vwCl (wP h c (upd st.1 4 p0, st.2.1, st.2.2.1, st.2.2.2)) H := hP
  have hD : va_D A (wP h c (upd st.1 4 p0, st.2.1, st.2.2.1, st.2.2.2)) := hD
  refine lv_aload_n hx hb d_P_changeMode_5 rfl (lv_at hl 0 rfl) ?_
  refine lv_iload_n hx hb d_P_changeMode_6 rfl (lv_at hl 2 rfl) ?_
  refine va_put (D := D) (ci := 2) (v := .int p1) (ty := .int) (C := "WindowMachine$Processor") (T := T_P) (N := 18) hx hb ht zi_P ty_P tyok_P nm_P hown hK hP hD hS 0 rfl rfl 8 (by decide) (ht _ zw_126) (fun _ h9 => h9) rfl (by decide +kernel) rfl rfl (Nat.le_of_ble_eq_true rfl) d_P_changeMode_7 (fun H locs hP hD hS => ?_)
  have hP : va_P D vwCl (wP h c (upd (upd st.1 4 p0) 5 p1, st.2.1, st.2.2.1, st.2.2.2)) H := hP
  have hD : va_D A (wP h c (upd (upd st.1 4 p0) 5 p1, st.2.1, st.2.2.1, st.2.2.2)) := hD
  refine lv_aload_n hx hb d_P_changeMode_10 rfl (lv_at hl 0 rfl) ?_
  refine lv_iload_n hx hb d_P_changeMode_11 rfl (lv_at hl 3 rfl) ?_
  refine va_put (D := D) (ci := 2) (v := .int p2) (ty := .int) (C := "WindowMachine$Processor") (T := T_P) (N := 18) hx hb ht zi_P ty_P tyok_P nm_P hown hK hP hD hS 0 rfl rfl 9 (by decide) (ht _ zw_127) (fun _ h9 => h9) rfl (by decide +kernel) rfl rfl (Nat.le_of_ble_eq_true rfl) d_P_changeMode_12 (fun H locs hP hD hS => ?_)
  have hP : va_P D vwCl (wP h c (upd (upd (upd st.1 4 p0) 5 p1) 6 p2, st.2.1, st.2.2.1, st.2.2.2)) H := hP
  have hD : va_D A (wP h c (upd (upd (upd st.1 4 p0) 5 p1) 6 p2, st.2.1, st.2.2.1, st.2.2.2)) := hD
  exact zl_v (u := (upd (upd (upd st.1 4 p0) 5 p1) 6 p2, st.2.1, st.2.2.1, st.2.2.2)) hx hb hr hlocks hS hP hD (by simp only [f_changeMode]) d_P_changeMode_15
theorem d_P_adopt_0 : decode c_P_adopt 0 = .ok (.aload_n 0, 1) := by decide +kernel
theorem d_P_adopt_1 : decode c_P_adopt 1 = .ok (.iload_n 1, 1) := by decide +kernel
theorem d_P_adopt_2 : decode c_P_adopt 2 = .ok (.putfield 63, 3) := by decide +kernel
theorem d_P_adopt_5 : decode c_P_adopt 5 = .ok (.aload_n 0, 1) := by decide +kernel
theorem d_P_adopt_6 : decode c_P_adopt 6 = .ok (.iload_n 2, 1) := by decide +kernel
theorem d_P_adopt_7 : decode c_P_adopt 7 = .ok (.putfield 66, 3) := by decide +kernel
theorem d_P_adopt_10 : decode c_P_adopt 10 = .ok (.aload_n 0, 1) := by decide +kernel
theorem d_P_adopt_11 : decode c_P_adopt 11 = .ok (.iload_n 3, 1) := by decide +kernel
theorem d_P_adopt_12 : decode c_P_adopt 12 = .ok (.putfield 69, 3) := by decide +kernel
theorem d_P_adopt_15 : decode c_P_adopt 15 = .ok (.aload_n 0, 1) := by decide +kernel
theorem d_P_adopt_16 : decode c_P_adopt 16 = .ok (.iload 4, 2) := by decide +kernel
theorem d_P_adopt_18 : decode c_P_adopt 18 = .ok (.sipush (-4096), 3) := by decide +kernel
theorem d_P_adopt_21 : decode c_P_adopt 21 = .ok (.iand, 1) := by decide +kernel
theorem d_P_adopt_22 : decode c_P_adopt 22 = .ok (.putfield 72, 3) := by decide +kernel
theorem d_P_adopt_25 : decode c_P_adopt 25 = .ok (.aload_n 0, 1) := by decide +kernel
theorem d_P_adopt_26 : decode c_P_adopt 26 = .ok (.iload 5, 2) := by decide +kernel
theorem d_P_adopt_28 : decode c_P_adopt 28 = .ok (.iconst 2, 1) := by decide +kernel
theorem d_P_adopt_29 : decode c_P_adopt 29 = .ok (.ishr, 1) := by decide +kernel
theorem d_P_adopt_30 : decode c_P_adopt 30 = .ok (.iload 5, 2) := by decide +kernel
theorem d_P_adopt_32 : decode c_P_adopt 32 = .ok (.iconst 1, 1) := by decide +kernel
theorem d_P_adopt_33 : decode c_P_adopt 33 = .ok (.ishr, 1) := by decide +kernel
theorem d_P_adopt_34 : decode c_P_adopt 34 = .ok (.iconst 1, 1) := by decide +kernel
theorem d_P_adopt_35 : decode c_P_adopt 35 = .ok (.iand, 1) := by decide +kernel
theorem d_P_adopt_36 : decode c_P_adopt 36 = .ok (.iload 5, 2) := by decide +kernel
theorem d_P_adopt_38 : decode c_P_adopt 38 = .ok (.iconst 1, 1) := by decide +kernel
theorem d_P_adopt_39 : decode c_P_adopt 39 = .ok (.iand, 1) := by decide +kernel
theorem d_P_adopt_40 : decode c_P_adopt 40 = .ok (.invokevirtual 75, 3) := by decide +kernel
theorem d_P_adopt_43 : decode c_P_adopt 43 = .ok (.return_, 1) := by decide +kernel
theorem kd_P_adopt : (y_P_adopt).cls = "WindowMachine$Processor" ∧ (y_P_adopt).cls ≠ "java/lang/invoke/MethodHandle" ∧ (y_P_adopt).cls ≠ "java/lang/invoke/VarHandle" ∧ (parseMethodDescriptor (y_P_adopt).desc).map (fun d => d.parameters.length) = some 5 := by decide +kernel
def f_adopt (st : SP) (p0 : Int32) (p1 : Int32) (p2 : Int32) (p3 : Int32) (p4 : Int32) : SP := (let u_1 := f_changeMode (upd (upd (upd (upd st.1 1 p0) 2 p1) 3 p2) 7 (p3 &&& (-4096 : Int32)), st.2.1, st.2.2.1, st.2.2.2) (p4 >>> ((2 : Int32) &&& 31)) ((p4 >>> ((1 : Int32) &&& 31)) &&& (1 : Int32)) (p4 &&& (1 : Int32)); u_1)
set_option maxHeartbeats 4000000 in
set_option maxRecDepth 100000 in
theorem mt_P_adopt (l : Launch) (D : va_G) (h : Nat → Nat) (c : Nat → ClassId) (sz : Nat) (st : SP) (p0 : Int32) (p1 : Int32) (p2 : Int32) (p3 : Int32) (p4 : Int32) : Met l y_P_adopt w_P_adopt ({ frames := 1, cells := 0, slots := 0, locals := 23 }) (va_Pc [.ref (h 0), .int p0, .int p1, .int p2, .int p3, .int p4] (zw_pre D vwCl [(c 0, .int), (c 1, .int)] sz (wP h c st) (fun _ => True))) (va_Qv (fun (u : SP) => u = f_adopt st p0 p1 p2 p3 p4) (fun u t => zw_at D vwCl (va_A (wP h c st) sz) ((fun (u : SP) => wP h c u) u) t) (va_A (wP h c st) sz)) 0 0 (va_A (wP h c st) sz) := by
  refine zm (Qf := fun A => va_Qv (fun (u : SP) => u = f_adopt st p0 p1 p2 p3 p4) (fun u t => zw_at D vwCl A ((fun (u : SP) => wP h c u) u) t) A) (Zf := fun _ _ => True) (cc := c_P_adopt) (nL := 6) (ret := none) (by decide) rfl (Nat.le_of_ble_eq_true rfl) ?_
  intro p e s m below meth c9 A H locs ls hx hb hml hown hts hr hlocks hA hK hP hD hS hZ hl
  have hl : lv_has ls 6 [(0, .ref (h 0)), (1, .int p0), (2, .int p1), (3, .int p2), (4, .int p3), (5, .int p4)] := hl
  have ht : ∀ w9 ∈ zT, w9.before _ s = true := fun w9 h9 => hts w9 (List.mem_cons_of_mem _ h9)
  refine lv_aload_n hx hb d_P_adopt_0 rfl (lv_at hl 0 rfl) ?_
  refine lv_iload_n hx hb d_P_adopt_1 rfl (lv_at hl 1 rfl) ?_
  refine va_put (D := D) (ci := 2) (v := .int p0) (ty := .int) (C := "WindowMachine$Processor") (T := T_P) (N := 18) hx hb ht zi_P ty_P tyok_P nm_P hown hK hP hD hS 0 rfl rfl 4 (by decide) (ht _ zw_122) (fun _ h9 => h9) rfl (by decide +kernel) rfl rfl (Nat.le_of_ble_eq_true rfl) d_P_adopt_2 (fun H locs hP hD hS => ?_)
  have hP : va_P D vwCl (wP h c (upd st.1 1 p0, st.2.1, st.2.2.1, st.2.2.2)) H := hP
  have hD : va_D A (wP h c (upd st.1 1 p0, st.2.1, st.2.2.1, st.2.2.2)) := hD
  refine lv_aload_n hx hb d_P_adopt_5 rfl (lv_at hl 0 rfl) ?_
  refine lv_iload_n hx hb d_P_adopt_6 rfl (lv_at hl 2 rfl) ?_
  refine va_put (D := D) (ci := 2) (v := .int p1) (ty := .int) (C := "WindowMachine$Processor") (T := T_P) (N := 18) hx hb ht zi_P ty_P tyok_P nm_P hown hK hP hD hS 0 rfl rfl 5 (by decide) (ht _ zw_123) (fun _ h9 => h9) rfl (by decide +kernel) rfl rfl (Nat.le_of_ble_eq_true rfl) d_P_adopt_7 (fun H locs hP hD hS => ?_)
  have hP : va_P D vwCl (wP h c (upd (upd st.1 1 p0) 2 p1, st.2.1, st.2.2.1, st.2.2.2)) H := hP
  have hD : va_D A (wP h c (upd (upd st.1 1 p0) 2 p1, st.2.1, st.2.2.1, st.2.2.2)) := hD
  refine lv_aload_n hx hb d_P_adopt_10 rfl (lv_at hl 0 rfl) ?_
  refine lv_iload_n hx hb d_P_adopt_11 rfl (lv_at hl 3 rfl) ?_
  refine va_put (D := D) (ci := 2) (v := .int p2) (ty := .int) (C := "WindowMachine$Processor") (T := T_P) (N := 18) hx hb ht zi_P ty_P tyok_P nm_P hown hK hP hD hS 0 rfl rfl 6 (by decide) (ht _ zw_124) (fun _ h9 => h9) rfl (by decide +kernel) rfl rfl (Nat.le_of_ble_eq_true rfl) d_P_adopt_12 (fun H locs hP hD hS => ?_)
  have hP : va_P D vwCl (wP h c (upd (upd (upd st.1 1 p0) 2 p1) 3 p2, st.2.1, st.2.2.1, st.2.2.2)) H := hP
  have hD : va_D A (wP h c (upd (upd (upd st.1 1 p0) 2 p1) 3 p2, st.2.1, st.2.2.1, st.2.2.2)) := hD
  refine lv_aload_n hx hb d_P_adopt_15 rfl (lv_at hl 0 rfl) ?_
  refine lv_iload hx hb d_P_adopt_16 (lv_at hl 4 rfl) ?_
  refine lv_sipush (v := (-4096 : Int32)) hx hb d_P_adopt_18 (by decide) ?_
  refine lv_iand hx hb d_P_adopt_21 ?_
  refine va_put (D := D) (ci := 2) (v := .int (p3 &&& (-4096 : Int32))) (ty := .int) (C := "WindowMachine$Processor") (T := T_P) (N := 18) hx hb ht zi_P ty_P tyok_P nm_P hown hK hP hD hS 0 rfl rfl 10 (by decide) (ht _ zw_128) (fun _ h9 => h9) rfl (by decide +kernel) rfl rfl (Nat.le_of_ble_eq_true rfl) d_P_adopt_22 (fun H locs hP hD hS => ?_)
  have hP : va_P D vwCl (wP h c (upd (upd (upd (upd st.1 1 p0) 2 p1) 3 p2) 7 (p3 &&& (-4096 : Int32)), st.2.1, st.2.2.1, st.2.2.2)) H := hP
  have hD : va_D A (wP h c (upd (upd (upd (upd st.1 1 p0) 2 p1) 3 p2) 7 (p3 &&& (-4096 : Int32)), st.2.1, st.2.2.1, st.2.2.2)) := hD
  refine lv_aload_n hx hb d_P_adopt_25 rfl (lv_at hl 0 rfl) ?_
  refine lv_iload hx hb d_P_adopt_26 (lv_at hl 5 rfl) ?_
  refine lv_iconst (v := (2 : Int32)) hx hb d_P_adopt_28 (by decide) ?_
  refine lv_ishr hx hb d_P_adopt_29 ?_
  refine lv_iload hx hb d_P_adopt_30 (lv_at hl 5 rfl) ?_
  refine lv_iconst (v := (1 : Int32)) hx hb d_P_adopt_32 (by decide) ?_
  refine lv_ishr hx hb d_P_adopt_33 ?_
  refine lv_iconst (v := (1 : Int32)) hx hb d_P_adopt_34 (by decide) ?_
  refine lv_iand hx hb d_P_adopt_35 ?_
  refine lv_iload hx hb d_P_adopt_36 (lv_at hl 5 rfl) ?_
  refine lv_iconst (v := (1 : Int32)) hx hb d_P_adopt_38 (by decide) ?_
  refine lv_iand hx hb d_P_adopt_39 ?_
  refine zc_v (w2 := fun u9 => wP h c u9) (va_runV (As := [.int (p4 >>> ((2 : Int32) &&& 31)), .int ((p4 >>> ((1 : Int32) &&& 31)) &&& (1 : Int32)), .int (p4 &&& (1 : Int32))]) (rest := []) ⟨hx, hb, hml, hown, ht⟩ (mt_P_changeMode l D h c H.size (upd (upd (upd (upd st.1 1 p0) 2 p1) 3 p2) 7 (p3 &&& (-4096 : Int32)), st.2.1, st.2.2.1, st.2.2.2) (p4 >>> ((2 : Int32) &&& 31)) ((p4 >>> ((1 : Int32) &&& 31)) &&& (1 : Int32)) (p4 &&& (1 : Int32))) (cwV 3 ht (zgV zw_112 zw_114 zs_0 zw_4 zw_115) rfl rfl rfl kd_P_changeMode ⟨Nat.le_of_ble_eq_true rfl, Nat.le_of_ble_eq_true rfl⟩) ⟨zw_blind zw_tt, va_recv (hK.sub (tys' := [(c 0, .int), (c 1, .int)]) [0, 1] rfl) (hP.sub (ws' := wP h c (upd (upd (upd (upd st.1 1 p0) 2 p1) 3 p2) 7 (p3 &&& (-4096 : Int32)), st.2.1, st.2.2.1, st.2.2.2)) [0, 1, 2, 3, 4, 5] rfl) (ci := 2) (q0 := 0) rfl rfl, zw_go (hP.sub (ws' := wP h c (upd (upd (upd (upd st.1 1 p0) 2 p1) 3 p2) 7 (p3 &&& (-4096 : Int32)), st.2.1, st.2.2.1, st.2.2.2)) [0, 1, 2, 3, 4, 5] rfl) (hD.sub (ws' := wP h c (upd (upd (upd (upd st.1 1 p0) 2 p1) 3 p2) 7 (p3 &&& (-4096 : Int32)), st.2.1, st.2.2.1, st.2.2.2)) [0, 1, 2, 3, 4, 5] (by decide) rfl) (hK.sub (tys' := [(c 0, .int), (c 1, .int)]) [0, 1] rfl) (fun _ _ _ => trivial)⟩ rfl rfl hl.1 rfl (lv_room (Nat.le_of_ble_eq_true rfl)) d_P_adopt_40 ⟨Nat.le_of_ble_eq_true rfl, Nat.le_of_ble_eq_true rfl⟩) hP hD hS hA [0, 1, 2, 3, 4, 5] [] [0, 1, 2, 3, 4, 5] rfl rfl (by decide) (by decide) (by decide) (fun _ => rfl) (fun u_1 H locs hw hP hD hS => ?_)
  have eu_1 := hw
  exact zl_v (u := u_1) hx hb hr hlocks hS hP hD (by subst eu_1; simp only [f_adopt]) d_P_adopt_43
theorem d_P_view_0 : decode c_P_view 0 = .ok (.iload_n 1, 1) := by decide +kernel
theorem d_P_view_1 : decode c_P_view 1 = .ok (.tableswitch 128 0 10 #[59, 64, 69, 74, 79, 84, 89, 108, 113, 118, 123], 59) := by decide +kernel
theorem d_P_view_60 : decode c_P_view 60 = .ok (.aload_n 0, 1) := by decide +kernel
theorem d_P_view_61 : decode c_P_view 61 = .ok (.getfield 44, 3) := by decide +kernel
theorem d_P_view_64 : decode c_P_view 64 = .ok (.ireturn, 1) := by decide +kernel
theorem d_P_view_65 : decode c_P_view 65 = .ok (.aload_n 0, 1) := by decide +kernel
theorem d_P_view_66 : decode c_P_view 66 = .ok (.getfield 47, 3) := by decide +kernel
theorem d_P_view_69 : decode c_P_view 69 = .ok (.ireturn, 1) := by decide +kernel
theorem d_P_view_70 : decode c_P_view 70 = .ok (.aload_n 0, 1) := by decide +kernel
theorem d_P_view_71 : decode c_P_view 71 = .ok (.getfield 36, 3) := by decide +kernel
theorem d_P_view_74 : decode c_P_view 74 = .ok (.ireturn, 1) := by decide +kernel
theorem d_P_view_75 : decode c_P_view 75 = .ok (.aload_n 0, 1) := by decide +kernel
theorem d_P_view_76 : decode c_P_view 76 = .ok (.getfield 63, 3) := by decide +kernel
theorem d_P_view_79 : decode c_P_view 79 = .ok (.ireturn, 1) := by decide +kernel
theorem d_P_view_80 : decode c_P_view 80 = .ok (.aload_n 0, 1) := by decide +kernel
theorem d_P_view_81 : decode c_P_view 81 = .ok (.getfield 66, 3) := by decide +kernel
theorem d_P_view_84 : decode c_P_view 84 = .ok (.ireturn, 1) := by decide +kernel
theorem d_P_view_85 : decode c_P_view 85 = .ok (.aload_n 0, 1) := by decide +kernel
theorem d_P_view_86 : decode c_P_view 86 = .ok (.getfield 69, 3) := by decide +kernel
theorem d_P_view_89 : decode c_P_view 89 = .ok (.ireturn, 1) := by decide +kernel
theorem d_P_view_90 : decode c_P_view 90 = .ok (.iconst 4, 1) := by decide +kernel
theorem d_P_view_91 : decode c_P_view 91 = .ok (.aload_n 0, 1) := by decide +kernel
theorem d_P_view_92 : decode c_P_view 92 = .ok (.getfield 79, 3) := by decide +kernel
theorem d_P_view_95 : decode c_P_view 95 = .ok (.imul, 1) := by decide +kernel
theorem d_P_view_96 : decode c_P_view 96 = .ok (.iconst 2, 1) := by decide +kernel
theorem d_P_view_97 : decode c_P_view 97 = .ok (.aload_n 0, 1) := by decide +kernel
theorem d_P_view_98 : decode c_P_view 98 = .ok (.getfield 82, 3) := by decide +kernel
theorem d_P_view_101 : decode c_P_view 101 = .ok (.imul, 1) := by decide +kernel
theorem d_P_view_102 : decode c_P_view 102 = .ok (.iadd, 1) := by decide +kernel
theorem d_P_view_103 : decode c_P_view 103 = .ok (.aload_n 0, 1) := by decide +kernel
theorem d_P_view_104 : decode c_P_view 104 = .ok (.getfield 85, 3) := by decide +kernel
theorem d_P_view_107 : decode c_P_view 107 = .ok (.iadd, 1) := by decide +kernel
theorem d_P_view_108 : decode c_P_view 108 = .ok (.ireturn, 1) := by decide +kernel
theorem d_P_view_109 : decode c_P_view 109 = .ok (.aload_n 0, 1) := by decide +kernel
theorem d_P_view_110 : decode c_P_view 110 = .ok (.getfield 72, 3) := by decide +kernel
theorem d_P_view_113 : decode c_P_view 113 = .ok (.ireturn, 1) := by decide +kernel
theorem d_P_view_114 : decode c_P_view 114 = .ok (.aload_n 0, 1) := by decide +kernel
theorem d_P_view_115 : decode c_P_view 115 = .ok (.getfield 54, 3) := by decide +kernel
theorem d_P_view_118 : decode c_P_view 118 = .ok (.ireturn, 1) := by decide +kernel
theorem d_P_view_119 : decode c_P_view 119 = .ok (.aload_n 0, 1) := by decide +kernel
theorem d_P_view_120 : decode c_P_view 120 = .ok (.getfield 57, 3) := by decide +kernel
theorem d_P_view_123 : decode c_P_view 123 = .ok (.ireturn, 1) := by decide +kernel
theorem d_P_view_124 : decode c_P_view 124 = .ok (.aload_n 0, 1) := by decide +kernel
theorem d_P_view_125 : decode c_P_view 125 = .ok (.getfield 60, 3) := by decide +kernel
theorem d_P_view_128 : decode c_P_view 128 = .ok (.ireturn, 1) := by decide +kernel
theorem d_P_view_129 : decode c_P_view 129 = .ok (.aload_n 0, 1) := by decide +kernel
theorem d_P_view_130 : decode c_P_view 130 = .ok (.getfield 50, 3) := by decide +kernel
theorem d_P_view_133 : decode c_P_view 133 = .ok (.ifCond .eq 7, 3) := by decide +kernel
theorem d_P_view_136 : decode c_P_view 136 = .ok (.iconst 1, 1) := by decide +kernel
theorem d_P_view_137 : decode c_P_view 137 = .ok (.goto 4, 3) := by decide +kernel
theorem d_P_view_140 : decode c_P_view 140 = .ok (.iconst 0, 1) := by decide +kernel
theorem d_P_view_141 : decode c_P_view 141 = .ok (.ireturn, 1) := by decide +kernel
theorem kd_P_view : (y_P_view).cls = "WindowMachine$Processor" ∧ (y_P_view).cls ≠ "java/lang/invoke/MethodHandle" ∧ (y_P_view).cls ≠ "java/lang/invoke/VarHandle" ∧ (parseMethodDescriptor (y_P_view).desc).map (fun d => d.parameters.length) = some 1 := by decide +kernel
def f_view (st : SP) (p0 : Int32) : Int32 := (if p0 = (0 : Int32) then st.1 8 else (if p0 = (1 : Int32) then st.1 9 else (if p0 = (2 : Int32) then st.1 0 else (if p0 = (3 : Int32) then st.1 1 else (if p0 = (4 : Int32) then st.1 2 else (if p0 = (5 : Int32) then st.1 3 else (if p0 = (6 : Int32) then (((4 : Int32) * (st.1 4)) + ((2 : Int32) * (st.1 5))) + (st.1 6) else (if p0 = (7 : Int32) then st.1 7 else (if p0 = (8 : Int32) then st.1 12 else (if p0 = (9 : Int32) then st.1 13 else (if p0 = (10 : Int32) then st.1 14 else (let x_13 := (if (st.1 11) = (0 : Int32) then (0 : Int32) else (1 : Int32)); x_13))))))))))))
set_option maxHeartbeats 4000000 in
set_option maxRecDepth 100000 in
theorem mt_P_view (l : Launch) (D : va_G) (h : Nat → Nat) (c : Nat → ClassId) (sz : Nat) (st : SP) (p0 : Int32) : Met l y_P_view w_P_view ({ frames := 0, cells := 0, slots := 0, locals := 0 }) (va_Pc [.ref (h 0), .int p0] (zw_pre D vwCl [(c 0, .int), (c 1, .int)] sz (wP h c st) (fun _ => True))) (va_Qi (fun r (_ : Unit) => r = f_view st p0) (fun u t => zw_at D vwCl (va_A (wP h c st) sz) ((fun (_ : Unit) => wP h c st) u) t) (va_A (wP h c st) sz)) 0 0 (va_A (wP h c st) sz) := by
  refine zm (Qf := fun A => va_Qi (fun r (_ : Unit) => r = f_view st p0) (fun u t => zw_at D vwCl A ((fun (_ : Unit) => wP h c st) u) t) A) (Zf := fun _ _ => True) (cc := c_P_view) (nL := 2) (ret := (some .int)) (by decide) rfl (Nat.le_of_ble_eq_true rfl) ?_
  intro p e s m below meth c9 A H locs ls hx hb hml hown hts hr hlocks hA hK hP hD hS hZ hl
  have hl : lv_has ls 2 [(0, .ref (h 0)), (1, .int p0)] := hl
  have ht : ∀ w9 ∈ zT, w9.before _ s = true := fun w9 h9 => hts w9 (List.mem_cons_of_mem _ h9)
  refine lv_iload_n hx hb d_P_view_0 rfl (lv_at hl 1 rfl) ?_
  by_cases c_2 : p0 = (0 : Int32)
  · refine lv_tableIn (tgt := 60) hx hb d_P_view_1 (by rw [c_2]; decide) (by rw [c_2]; decide) (by rw [c_2]; rfl) (by decide) ?_
    refine lv_aload_n hx hb d_P_view_60 rfl (lv_at hl 0 rfl) ?_
    refine va_get (D := D) (ci := 2) (v := .int (st.1 8)) (C := "WindowMachine$Processor") (T := T_P) (N := 18) hx hb ht zi_P hown hK hP 0 rfl rfl 11 (by decide) (ht _ zw_129) (fun _ h9 => h9) rfl d_P_view_61 ?_
    exact zl_i (u := ()) hx hb hr hlocks hS hP hD (by simp only [f_view, if_pos c_2]) d_P_view_64
  by_cases c_3 : p0 = (1 : Int32)
  · refine lv_tableIn (tgt := 65) hx hb d_P_view_1 (by rw [c_3]; decide) (by rw [c_3]; decide) (by rw [c_3]; rfl) (by decide) ?_
    refine lv_aload_n hx hb d_P_view_65 rfl (lv_at hl 0 rfl) ?_
    refine va_get (D := D) (ci := 2) (v := .int (st.1 9)) (C := "WindowMachine$Processor") (T := T_P) (N := 18) hx hb ht zi_P hown hK hP 0 rfl rfl 12 (by decide) (ht _ zw_130) (fun _ h9 => h9) rfl d_P_view_66 ?_
    exact zl_i (u := ()) hx hb hr hlocks hS hP hD (by simp only [f_view, if_neg c_2, if_pos c_3]) d_P_view_69
  by_cases c_4 : p0 = (2 : Int32)
  · refine lv_tableIn (tgt := 70) hx hb d_P_view_1 (by rw [c_4]; decide) (by rw [c_4]; decide) (by rw [c_4]; rfl) (by decide) ?_
    refine lv_aload_n hx hb d_P_view_70 rfl (lv_at hl 0 rfl) ?_
    refine va_get (D := D) (ci := 2) (v := .int (st.1 0)) (C := "WindowMachine$Processor") (T := T_P) (N := 18) hx hb ht zi_P hown hK hP 0 rfl rfl 3 (by decide) (ht _ zw_120) (fun _ h9 => h9) rfl d_P_view_71 ?_
    exact zl_i (u := ()) hx hb hr hlocks hS hP hD (by simp only [f_view, if_neg c_2, if_neg c_3, if_pos c_4]) d_P_view_74
  by_cases c_5 : p0 = (3 : Int32)
  · refine lv_tableIn (tgt := 75) hx hb d_P_view_1 (by rw [c_5]; decide) (by rw [c_5]; decide) (by rw [c_5]; rfl) (by decide) ?_
    refine lv_aload_n hx hb d_P_view_75 rfl (lv_at hl 0 rfl) ?_
    refine va_get (D := D) (ci := 2) (v := .int (st.1 1)) (C := "WindowMachine$Processor") (T := T_P) (N := 18) hx hb ht zi_P hown hK hP 0 rfl rfl 4 (by decide) (ht _ zw_122) (fun _ h9 => h9) rfl d_P_view_76 ?_
    exact zl_i (u := ()) hx hb hr hlocks hS hP hD (by simp only [f_view, if_neg c_2, if_neg c_3, if_neg c_4, if_pos c_5]) d_P_view_79
  by_cases c_6 : p0 = (4 : Int32)
  · refine lv_tableIn (tgt := 80) hx hb d_P_view_1 (by rw [c_6]; decide) (by rw [c_6]; decide) (by rw [c_6]; rfl) (by decide) ?_
    refine lv_aload_n hx hb d_P_view_80 rfl (lv_at hl 0 rfl) ?_
    refine va_get (D := D) (ci := 2) (v := .int (st.1 2)) (C := "WindowMachine$Processor") (T := T_P) (N := 18) hx hb ht zi_P hown hK hP 0 rfl rfl 5 (by decide) (ht _ zw_123) (fun _ h9 => h9) rfl d_P_view_81 ?_
    exact zl_i (u := ()) hx hb hr hlocks hS hP hD (by simp only [f_view, if_neg c_2, if_neg c_3, if_neg c_4, if_neg c_5, if_pos c_6]) d_P_view_84
  by_cases c_7 : p0 = (5 : Int32)
  · refine lv_tableIn (tgt := 85) hx hb d_P_view_1 (by rw [c_7]; decide) (by rw [c_7]; decide) (by rw [c_7]; rfl) (by decide) ?_
    refine lv_aload_n hx hb d_P_view_85 rfl (lv_at hl 0 rfl) ?_
    refine va_get (D := D) (ci := 2) (v := .int (st.1 3)) (C := "WindowMachine$Processor") (T := T_P) (N := 18) hx hb ht zi_P hown hK hP 0 rfl rfl 6 (by decide) (ht _ zw_124) (fun _ h9 => h9) rfl d_P_view_86 ?_
    exact zl_i (u := ()) hx hb hr hlocks hS hP hD (by simp only [f_view, if_neg c_2, if_neg c_3, if_neg c_4, if_neg c_5, if_neg c_6, if_pos c_7]) d_P_view_89
  by_cases c_8 : p0 = (6 : Int32)
  · refine lv_tableIn (tgt := 90) hx hb d_P_view_1 (by rw [c_8]; decide) (by rw [c_8]; decide) (by rw [c_8]; rfl) (by decide) ?_
    refine lv_iconst (v := (4 : Int32)) hx hb d_P_view_90 (by decide) ?_
    refine lv_aload_n hx hb d_P_view_91 rfl (lv_at hl 0 rfl) ?_
    refine va_get (D := D) (ci := 2) (v := .int (st.1 4)) (C := "WindowMachine$Processor") (T := T_P) (N := 18) hx hb ht zi_P hown hK hP 0 rfl rfl 7 (by decide) (ht _ zw_125) (fun _ h9 => h9) rfl d_P_view_92 ?_
    refine lv_imul hx hb d_P_view_95 ?_
    refine lv_iconst (v := (2 : Int32)) hx hb d_P_view_96 (by decide) ?_
    refine lv_aload_n hx hb d_P_view_97 rfl (lv_at hl 0 rfl) ?_
    refine va_get (D := D) (ci := 2) (v := .int (st.1 5)) (C := "WindowMachine$Processor") (T := T_P) (N := 18) hx hb ht zi_P hown hK hP 0 rfl rfl 8 (by decide) (ht _ zw_126) (fun _ h9 => h9) rfl d_P_view_98 ?_
    refine lv_imul hx hb d_P_view_101 ?_
    refine lv_iadd hx hb d_P_view_102 ?_
    refine lv_aload_n hx hb d_P_view_103 rfl (lv_at hl 0 rfl) ?_
    refine va_get (D := D) (ci := 2) (v := .int (st.1 6)) (C := "WindowMachine$Processor") (T := T_P) (N := 18) hx hb ht zi_P hown hK hP 0 rfl rfl 9 (by decide) (ht _ zw_127) (fun _ h9 => h9) rfl d_P_view_104 ?_
    refine lv_iadd hx hb d_P_view_107 ?_
    exact zl_i (u := ()) hx hb hr hlocks hS hP hD (by simp only [f_view, if_neg c_2, if_neg c_3, if_neg c_4, if_neg c_5, if_neg c_6, if_neg c_7, if_pos c_8]) d_P_view_108
  by_cases c_9 : p0 = (7 : Int32)
  · refine lv_tableIn (tgt := 109) hx hb d_P_view_1 (by rw [c_9]; decide) (by rw [c_9]; decide) (by rw [c_9]; rfl) (by decide) ?_
    refine lv_aload_n hx hb d_P_view_109 rfl (lv_at hl 0 rfl) ?_
    refine va_get (D := D) (ci := 2) (v := .int (st.1 7)) (C := "WindowMachine$Processor") (T := T_P) (N := 18) hx hb ht zi_P hown hK hP 0 rfl rfl 10 (by decide) (ht _ zw_128) (fun _ h9 => h9) rfl d_P_view_110 ?_
    exact zl_i (u := ()) hx hb hr hlocks hS hP hD (by simp only [f_view, if_neg c_2, if_neg c_3, if_neg c_4, if_neg c_5, if_neg c_6, if_neg c_7, if_neg c_8, if_pos c_9]) d_P_view_113
  by_cases c_10 : p0 = (8 : Int32)
  · refine lv_tableIn (tgt := 114) hx hb d_P_view_1 (by rw [c_10]; decide) (by rw [c_10]; decide) (by rw [c_10]; rfl) (by decide) ?_
    refine lv_aload_n hx hb d_P_view_114 rfl (lv_at hl 0 rfl) ?_
    refine va_get (D := D) (ci := 2) (v := .int (st.1 12)) (C := "WindowMachine$Processor") (T := T_P) (N := 18) hx hb ht zi_P hown hK hP 0 rfl rfl 15 (by decide) (ht _ zw_133) (fun _ h9 => h9) rfl d_P_view_115 ?_
    exact zl_i (u := ()) hx hb hr hlocks hS hP hD (by simp only [f_view, if_neg c_2, if_neg c_3, if_neg c_4, if_neg c_5, if_neg c_6, if_neg c_7, if_neg c_8, if_neg c_9, if_pos c_10]) d_P_view_118
  by_cases c_11 : p0 = (9 : Int32)
  · refine lv_tableIn (tgt := 119) hx hb d_P_view_1 (by rw [c_11]; decide) (by rw [c_11]; decide) (by rw [c_11]; rfl) (by decide) ?_
    refine lv_aload_n hx hb d_P_view_119 rfl (lv_at hl 0 rfl) ?_
    refine va_get (D := D) (ci := 2) (v := .int (st.1 13)) (C := "WindowMachine$Processor") (T := T_P) (N := 18) hx hb ht zi_P hown hK hP 0 rfl rfl 16 (by decide) (ht _ zw_135) (fun _ h9 => h9) rfl d_P_view_120 ?_
    exact zl_i (u := ()) hx hb hr hlocks hS hP hD (by simp only [f_view, if_neg c_2, if_neg c_3, if_neg c_4, if_neg c_5, if_neg c_6, if_neg c_7, if_neg c_8, if_neg c_9, if_neg c_10, if_pos c_11]) d_P_view_123
  by_cases c_12 : p0 = (10 : Int32)
  · refine lv_tableIn (tgt := 124) hx hb d_P_view_1 (by rw [c_12]; decide) (by rw [c_12]; decide) (by rw [c_12]; rfl) (by decide) ?_
    refine lv_aload_n hx hb d_P_view_124 rfl (lv_at hl 0 rfl) ?_
    refine va_get (D := D) (ci := 2) (v := .int (st.1 14)) (C := "WindowMachine$Processor") (T := T_P) (N := 18) hx hb ht zi_P hown hK hP 0 rfl rfl 17 (by decide) (ht _ zw_136) (fun _ h9 => h9) rfl d_P_view_125 ?_
    exact zl_i (u := ()) hx hb hr hlocks hS hP hD (by simp only [f_view, if_neg c_2, if_neg c_3, if_neg c_4, if_neg c_5, if_neg c_6, if_neg c_7, if_neg c_8, if_neg c_9, if_neg c_10, if_neg c_11, if_pos c_12]) d_P_view_128
  refine lv_tableOut (tgt := 129) hx hb d_P_view_1 (by have := lv_neT c_2 (a := 0) (by decide); have := lv_neT c_3 (a := 1) (by decide); have := lv_neT c_4 (a := 2) (by decide); have := lv_neT c_5 (a := 3) (by decide); have := lv_neT c_6 (a := 4) (by decide); have := lv_neT c_7 (a := 5) (by decide); have := lv_neT c_8 (a := 6) (by decide); have := lv_neT c_9 (a := 7) (by decide); have := lv_neT c_10 (a := 8) (by decide); have := lv_neT c_11 (a := 9) (by decide); have := lv_neT c_12 (a := 10) (by decide); omega) (by decide) ?_
  refine lv_aload_n hx hb d_P_view_129 rfl (lv_at hl 0 rfl) ?_
  refine va_get (D := D) (ci := 2) (v := .int (st.1 11)) (C := "WindowMachine$Processor") (T := T_P) (N := 18) hx hb ht zi_P hown hK hP 0 rfl rfl 14 (by decide) (ht _ zw_132) (fun _ h9 => h9) rfl d_P_view_130 ?_
  refine zcut (X := Int32) (G := fun v9 H locs ls => v9 = (if (st.1 11) = (0 : Int32) then (0 : Int32) else (1 : Int32)) ∧ va_P D vwCl (wP h c st) H ∧ va_D A (wP h c st) ∧ va_S A s.heap H locs ∧ lv_has ls 2 [(0, .ref (h 0)), (1, .int p0)]) (fr := fun v9 ls => F0 m 141 ls [.int v9]) (fun J_14 => ?_) (fun v9 H locs ls hG => ?_)
  · refine lv_if_eq (tgt := 140) hx hb d_P_view_133 (by decide) (fun c_15 => ?_) (fun c_15 => ?_)
    · refine lv_iconst (v := (0 : Int32)) hx hb d_P_view_140 (by decide) ?_
      exact J_14 (0 : Int32) _ _ _ ⟨by simp only [if_pos c_15], hP, hD, hS, hl⟩
    refine lv_iconst (v := (1 : Int32)) hx hb d_P_view_136 (by decide) ?_
    refine lv_goto (tgt := 141) hx hb d_P_view_137 (by decide) ?_
    exact J_14 (1 : Int32) _ _ _ ⟨by simp only [if_neg c_15], hP, hD, hS, hl⟩
  obtain ⟨x_13, rfl⟩ : ∃ z, z = v9 := ⟨_, rfl⟩
  obtain ⟨ex_13, hP, hD, hS, hl⟩ := hG
  have zbx_13 : zB x_13 := by rw [ex_13]; repeat' first | exact zB0 | exact zB1 | assumption | apply zB_ite
  exact zl_i (u := ()) hx hb hr hlocks hS hP hD (by subst ex_13; simp only [f_view, if_neg c_2, if_neg c_3, if_neg c_4, if_neg c_5, if_neg c_6, if_neg c_7, if_neg c_8, if_neg c_9, if_neg c_10, if_neg c_11, if_neg c_12]) d_P_view_141
theorem d_P_deliver_0 : decode c_P_deliver 0 = .ok (.aload_n 0, 1) := by decide +kernel
theorem d_P_deliver_1 : decode c_P_deliver 1 = .ok (.getfield 18, 3) := by decide +kernel
theorem d_P_deliver_4 : decode c_P_deliver 4 = .ok (.aload_n 0, 1) := by decide +kernel
theorem d_P_deliver_5 : decode c_P_deliver 5 = .ok (.getfield 36, 3) := by decide +kernel
theorem d_P_deliver_8 : decode c_P_deliver 8 = .ok (.iload_n 1, 1) := by decide +kernel
theorem d_P_deliver_9 : decode c_P_deliver 9 = .ok (.invokestatic 197, 3) := by decide +kernel
theorem d_P_deliver_12 : decode c_P_deliver 12 = .ok (.iload_n 2, 1) := by decide +kernel
theorem d_P_deliver_13 : decode c_P_deliver 13 = .ok (.invokevirtual 101, 3) := by decide +kernel
theorem d_P_deliver_16 : decode c_P_deliver 16 = .ok (.iconst (-1), 1) := by decide +kernel
theorem d_P_deliver_17 : decode c_P_deliver 17 = .ok (.ireturn, 1) := by decide +kernel
theorem kd_P_deliver : (y_P_deliver).cls = "WindowMachine$Processor" ∧ (y_P_deliver).cls ≠ "java/lang/invoke/MethodHandle" ∧ (y_P_deliver).cls ≠ "java/lang/invoke/VarHandle" ∧ (parseMethodDescriptor (y_P_deliver).desc).map (fun d => d.parameters.length) = some 2 := by decide +kernel
def f_deliver (st : SP) (p0 : Int32) (p1 : Int32) : Int32 × SP := (let u_2 := f_rwrite st.2.2.1 (st.1 0) (f_rdOf p0) p1; ((-1 : Int32), (st.1, st.2.1, u_2, st.2.2.2)))
set_option maxHeartbeats 4000000 in
set_option maxRecDepth 100000 in
theorem mt_P_deliver (l : Launch) (D : va_G) (h : Nat → Nat) (c : Nat → ClassId) (sz : Nat) (st : SP) (p0 : Int32) (p1 : Int32) (hW : vp_in (st.1 0) 4) : Met l y_P_deliver w_P_deliver ({ frames := 2, cells := 0, slots := 0, locals := 44 }) (va_Pc [.ref (h 0), .int p0, .int p1] (zw_pre D vwCl [(c 0, .int), (c 1, .int)] sz (wP h c st) (fun _ => True))) (va_Qi (fun r (u : SP) => r = (f_deliver st p0 p1).1 ∧ u = (f_deliver st p0 p1).2) (fun u t => zw_at D vwCl (va_A (wP h c st) sz) ((fun (u : SP) => wP h c u) u) t) (va_A (wP h c st) sz)) 0 0 (va_A (wP h c st) sz) := by
  refine zm (Qf := fun A => va_Qi (fun r (u : SP) => r = (f_deliver st p0 p1).1 ∧ u = (f_deliver st p0 p1).2) (fun u t => zw_at D vwCl A ((fun (u : SP) => wP h c u) u) t) A) (Zf := fun _ _ => True) (cc := c_P_deliver) (nL := 3) (ret := (some .int)) (by decide) rfl (Nat.le_of_ble_eq_true rfl) ?_
  intro p e s m below meth c9 A H locs ls hx hb hml hown hts hr hlocks hA hK hP hD hS hZ hl
  have hl : lv_has ls 3 [(0, .ref (h 0)), (1, .int p0), (2, .int p1)] := hl
  have ht : ∀ w9 ∈ zT, w9.before _ s = true := fun w9 h9 => hts w9 (List.mem_cons_of_mem _ h9)
  refine lv_aload_n hx hb d_P_deliver_0 rfl (lv_at hl 0 rfl) ?_
  refine va_get (D := D) (ci := 2) (v := .ref (h 3)) (C := "WindowMachine$Processor") (T := T_P) (N := 18) hx hb ht zi_P hown hK hP 0 rfl rfl 1 (by decide) (ht _ zw_117) (fun _ h9 => h9) rfl d_P_deliver_1 ?_
  refine lv_aload_n hx hb d_P_deliver_4 rfl (lv_at hl 0 rfl) ?_
  refine va_get (D := D) (ci := 2) (v := .int (st.1 0)) (C := "WindowMachine$Processor") (T := T_P) (N := 18) hx hb ht zi_P hown hK hP 0 rfl rfl 3 (by decide) (ht _ zw_120) (fun _ h9 => h9) rfl d_P_deliver_5 ?_
  refine lv_iload_n hx hb d_P_deliver_8 rfl (lv_at hl 1 rfl) ?_
  refine zc_i (w2 := fun _ => wP h c st) (va_runS (As := [.int p0]) (rest := [.int (st.1 0), .ref (h 3)]) ⟨hx, hb, hml, hown, ht⟩ (mt_P_rdOf l D H.size p0) (cwS 1 ht (zgS zw_550 zw_551 zw_4 zw_552) rfl rfl rfl kd_P_rdOf ⟨Nat.le_of_ble_eq_true rfl, Nat.le_of_ble_eq_true rfl⟩) ⟨zw_blind zw_tt, zw_go (hP.sub (ws' := []) [] rfl) (hD.sub (ws' := []) [] (by decide) rfl) (hK.sub (tys' := []) [] rfl) (fun _ _ _ => trivial)⟩ rfl rfl hl.1 rfl (lv_room (Nat.le_of_ble_eq_true rfl)) d_P_deliver_9 ⟨Nat.le_of_ble_eq_true rfl, Nat.le_of_ble_eq_true rfl⟩) hP hD hS hA [] [0, 1, 2, 3, 4, 5] [0, 1, 2, 3, 4, 5] rfl rfl (by decide) (by decide) (by decide) (fun _ => rfl) (fun r_1 _ H locs hw hP hD hS => ?_)
  subst hw
  refine lv_iload_n hx hb d_P_deliver_12 rfl (lv_at hl 2 rfl) ?_
  refine zc_v (w2 := fun u9 => wP h c (st.1, st.2.1, u9, st.2.2.2)) (va_runV (As := [.int (st.1 0), .int (f_rdOf p0), .int p1]) (rest := []) ⟨hx, hb, hml, hown, ht⟩ (mt_R_write l D (h 3) (h 4) (c 1) H.size st.2.2.1 (st.1 0) (f_rdOf p0) p1 hW (rd_in p0)) (cwV 3 ht (zgV zw_553 zw_554 zw_555 zw_5 zw_556) rfl rfl rfl kd_R_write ⟨Nat.le_of_ble_eq_true rfl, Nat.le_of_ble_eq_true rfl⟩) ⟨zw_blind zw_tt, va_recv (hK.sub (tys' := [((c 1), .int)]) [1] rfl) (hP.sub (ws' := wR (h 3) (h 4) (c 1) st.2.2.1) [3, 4] rfl) (ci := 4) (q0 := 0) rfl rfl, zw_go (hP.sub (ws' := wR (h 3) (h 4) (c 1) st.2.2.1) [3, 4] rfl) (hD.sub (ws' := wR (h 3) (h 4) (c 1) st.2.2.1) [3, 4] (by decide) rfl) (hK.sub (tys' := [((c 1), .int)]) [1] rfl) (fun _ _ _ => trivial)⟩ rfl rfl hl.1 rfl (lv_room (Nat.le_of_ble_eq_true rfl)) d_P_deliver_13 ⟨Nat.le_of_ble_eq_true rfl, Nat.le_of_ble_eq_true rfl⟩) hP hD hS hA [3, 4] [0, 1, 2, 5] [0, 1, 2, 4, 5, 3] rfl rfl (by decide) (by decide) (by decide) (fun _ => rfl) (fun u_2 H locs hw hP hD hS => ?_)
  have eu_2 := hw
  refine lv_iconst (v := (-1 : Int32)) hx hb d_P_deliver_16 (by decide) ?_
  exact zl_i (u := (st.1, st.2.1, u_2, st.2.2.2)) hx hb hr hlocks hS hP hD (⟨by subst eu_2; simp only [f_deliver], by subst eu_2; simp only [f_deliver]⟩) d_P_deliver_17
theorem d_P_secondOperand_0 : decode c_P_secondOperand 0 = .ok (.iload_n 1, 1) := by decide +kernel
theorem d_P_secondOperand_1 : decode c_P_secondOperand 1 = .ok (.bipush 13, 2) := by decide +kernel
theorem d_P_secondOperand_3 : decode c_P_secondOperand 3 = .ok (.iushr, 1) := by decide +kernel
theorem d_P_secondOperand_4 : decode c_P_secondOperand 4 = .ok (.iconst 1, 1) := by decide +kernel
theorem d_P_secondOperand_5 : decode c_P_secondOperand 5 = .ok (.iand, 1) := by decide +kernel
theorem d_P_secondOperand_6 : decode c_P_secondOperand 6 = .ok (.iconst 1, 1) := by decide +kernel
theorem d_P_secondOperand_7 : decode c_P_secondOperand 7 = .ok (.if_icmp .ne 7, 3) := by decide +kernel
theorem d_P_secondOperand_10 : decode c_P_secondOperand 10 = .ok (.iconst 1, 1) := by decide +kernel
theorem d_P_secondOperand_11 : decode c_P_secondOperand 11 = .ok (.goto 4, 3) := by decide +kernel
theorem d_P_secondOperand_14 : decode c_P_secondOperand 14 = .ok (.iconst 0, 1) := by decide +kernel
theorem d_P_secondOperand_15 : decode c_P_secondOperand 15 = .ok (.istore_n 2, 1) := by decide +kernel
theorem d_P_secondOperand_16 : decode c_P_secondOperand 16 = .ok (.iload_n 2, 1) := by decide +kernel
theorem d_P_secondOperand_17 : decode c_P_secondOperand 17 = .ok (.ifCond .eq 13, 3) := by decide +kernel
theorem d_P_secondOperand_20 : decode c_P_secondOperand 20 = .ok (.iload_n 1, 1) := by decide +kernel
theorem d_P_secondOperand_21 : decode c_P_secondOperand 21 = .ok (.bipush 19, 2) := by decide +kernel
theorem d_P_secondOperand_23 : decode c_P_secondOperand 23 = .ok (.ishl, 1) := by decide +kernel
theorem d_P_secondOperand_24 : decode c_P_secondOperand 24 = .ok (.bipush 19, 2) := by decide +kernel
theorem d_P_secondOperand_26 : decode c_P_secondOperand 26 = .ok (.ishr, 1) := by decide +kernel
theorem d_P_secondOperand_27 : decode c_P_secondOperand 27 = .ok (.goto 18, 3) := by decide +kernel
theorem d_P_secondOperand_30 : decode c_P_secondOperand 30 = .ok (.aload_n 0, 1) := by decide +kernel
theorem d_P_secondOperand_31 : decode c_P_secondOperand 31 = .ok (.getfield 18, 3) := by decide +kernel
theorem d_P_secondOperand_34 : decode c_P_secondOperand 34 = .ok (.aload_n 0, 1) := by decide +kernel
theorem d_P_secondOperand_35 : decode c_P_secondOperand 35 = .ok (.getfield 36, 3) := by decide +kernel
theorem d_P_secondOperand_38 : decode c_P_secondOperand 38 = .ok (.iload_n 1, 1) := by decide +kernel
theorem d_P_secondOperand_39 : decode c_P_secondOperand 39 = .ok (.bipush 31, 2) := by decide +kernel
theorem d_P_secondOperand_41 : decode c_P_secondOperand 41 = .ok (.iand, 1) := by decide +kernel
theorem d_P_secondOperand_42 : decode c_P_secondOperand 42 = .ok (.invokevirtual 146, 3) := by decide +kernel
theorem d_P_secondOperand_45 : decode c_P_secondOperand 45 = .ok (.ireturn, 1) := by decide +kernel
theorem kd_P_secondOperand : (y_P_secondOperand).cls = "WindowMachine$Processor" ∧ (y_P_secondOperand).cls ≠ "java/lang/invoke/MethodHandle" ∧ (y_P_secondOperand).cls ≠ "java/lang/invoke/VarHandle" ∧ (parseMethodDescriptor (y_P_secondOperand).desc).map (fun d => d.parameters.length) = some 1 := by decide +kernel
def f_secondOperand (st : SP) (p0 : Int32) : Int32 := (let x_1 := (if ((zushr p0 (13 : Int32)) &&& (1 : Int32)) = (1 : Int32) then (1 : Int32) else (0 : Int32)); (let x_4 := (if x_1 = (0 : Int32) then f_rread st.2.2.1 (st.1 0) (p0 &&& (31 : Int32)) else (p0 <<< ((19 : Int32) &&& 31)) >>> ((19 : Int32) &&& 31)); x_4))
set_option maxHeartbeats 4000000 in
set_option maxRecDepth 100000 in
theorem mt_P_secondOperand (l : Launch) (D : va_G) (h : Nat → Nat) (c : Nat → ClassId) (sz : Nat) (st : SP) (p0 : Int32) (hW : vp_in (st.1 0) 4) : Met l y_P_secondOperand w_P_secondOperand ({ frames := 2, cells := 0, slots := 0, locals := 43 }) (va_Pc [.ref (h 0), .int p0] (zw_pre D vwCl [(c 0, .int), (c 1, .int)] sz (wP h c st) (fun _ => True))) (va_Qi (fun r (_ : Unit) => r = f_secondOperand st p0) (fun u t => zw_at D vwCl (va_A (wP h c st) sz) ((fun (_ : Unit) => wP h c st) u) t) (va_A (wP h c st) sz)) 0 0 (va_A (wP h c st) sz) := by
  refine zm (Qf := fun A => va_Qi (fun r (_ : Unit) => r = f_secondOperand st p0) (fun u t => zw_at D vwCl A ((fun (_ : Unit) => wP h c st) u) t) A) (Zf := fun _ _ => True) (cc := c_P_secondOperand) (nL := 3) (ret := (some .int)) (by decide) rfl (Nat.le_of_ble_eq_true rfl) ?_
  intro p e s m below meth c9 A H locs ls hx hb hml hown hts hr hlocks hA hK hP hD hS hZ hl
  have hl : lv_has ls 3 [(0, .ref (h 0)), (1, .int p0)] := hl
  have ht : ∀ w9 ∈ zT, w9.before _ s = true := fun w9 h9 => hts w9 (List.mem_cons_of_mem _ h9)
  refine lv_iload_n hx hb d_P_secondOperand_0 rfl (lv_at hl 1 rfl) ?_
  refine lv_bipush (v := (13 : Int32)) hx hb d_P_secondOperand_1 (by decide) ?_
  refine lv_iushr (v := zushr p0 (13 : Int32)) hx hb d_P_secondOperand_3 rfl ?_
  refine lv_iconst (v := (1 : Int32)) hx hb d_P_secondOperand_4 (by decide) ?_
  refine lv_iand hx hb d_P_secondOperand_5 ?_
  refine lv_iconst (v := (1 : Int32)) hx hb d_P_secondOperand_6 (by decide) ?_
  refine zcut (X := Int32) (G := fun v9 H locs ls => v9 = (if ((zushr p0 (13 : Int32)) &&& (1 : Int32)) = (1 : Int32) then (1 : Int32) else (0 : Int32)) ∧ va_P D vwCl (wP h c st) H ∧ va_D A (wP h c st) ∧ va_S A s.heap H locs ∧ lv_has ls 3 [(0, .ref (h 0)), (1, .int p0)]) (fr := fun v9 ls => F0 m 15 ls [.int v9]) (fun J_2 => ?_) (fun v9 H locs ls hG => ?_)
  · refine lv_icmp_ne (tgt := 14) hx hb d_P_secondOperand_7 (by decide) (fun c_3 => ?_) (fun c_3 => ?_)
    · refine lv_iconst (v := (0 : Int32)) hx hb d_P_secondOperand_14 (by decide) ?_
      exact J_2 (0 : Int32) _ _ _ ⟨by simp only [if_neg c_3], hP, hD, hS, hl⟩
    refine lv_iconst (v := (1 : Int32)) hx hb d_P_secondOperand_10 (by decide) ?_
    refine lv_goto (tgt := 15) hx hb d_P_secondOperand_11 (by decide) ?_
    exact J_2 (1 : Int32) _ _ _ ⟨by simp only [if_pos c_3], hP, hD, hS, hl⟩
  obtain ⟨x_1, rfl⟩ : ∃ z, z = v9 := ⟨_, rfl⟩
  obtain ⟨ex_1, hP, hD, hS, hl⟩ := hG
  have zbx_1 : zB x_1 := by rw [ex_1]; repeat' first | exact zB0 | exact zB1 | assumption | apply zB_ite
  refine lv_istore_n (lv' := [(2, .int x_1), (0, .ref (h 0)), (1, .int p0)]) hx hb d_P_secondOperand_15 rfl hl (by decide) rfl (fun ls hl => ?_)
  refine lv_iload_n hx hb d_P_secondOperand_16 rfl (lv_at hl 0 rfl) ?_
  refine zcut (X := Int32) (G := fun v9 H locs ls => v9 = (if x_1 = (0 : Int32) then f_rread st.2.2.1 (st.1 0) (p0 &&& (31 : Int32)) else (p0 <<< ((19 : Int32) &&& 31)) >>> ((19 : Int32) &&& 31)) ∧ va_P D vwCl (wP h c st) H ∧ va_D A (wP h c st) ∧ va_S A s.heap H locs ∧ lv_has ls 3 [(0, .ref (h 0)), (1, .int p0), (2, .int x_1)]) (fr := fun v9 ls => F0 m 45 ls [.int v9]) (fun J_5 => ?_) (fun v9 H locs ls hG => ?_)
  · refine lv_if_eq (tgt := 30) hx hb d_P_secondOperand_17 (by decide) (fun c_6 => ?_) (fun c_6 => ?_)
    · refine lv_aload_n hx hb d_P_secondOperand_30 rfl (lv_at hl 1 rfl) ?_
      refine va_get (D := D) (ci := 2) (v := .ref (h 3)) (C := "WindowMachine$Processor") (T := T_P) (N := 18) hx hb ht zi_P hown hK hP 0 rfl rfl 1 (by decide) (ht _ zw_117) (fun _ h9 => h9) rfl d_P_secondOperand_31 ?_
      refine lv_aload_n hx hb d_P_secondOperand_34 rfl (lv_at hl 1 rfl) ?_
      refine va_get (D := D) (ci := 2) (v := .int (st.1 0)) (C := "WindowMachine$Processor") (T := T_P) (N := 18) hx hb ht zi_P hown hK hP 0 rfl rfl 3 (by decide) (ht _ zw_120) (fun _ h9 => h9) rfl d_P_secondOperand_35 ?_
      refine lv_iload_n hx hb d_P_secondOperand_38 rfl (lv_at hl 2 rfl) ?_
      refine lv_bipush (v := (31 : Int32)) hx hb d_P_secondOperand_39 (by decide) ?_
      refine lv_iand hx hb d_P_secondOperand_41 ?_
      refine zc_i (w2 := fun _ => wP h c st) (va_runV (As := [.int (st.1 0), .int (p0 &&& (31 : Int32))]) (rest := []) ⟨hx, hb, hml, hown, ht⟩ (mt_R_read l D (h 3) (h 4) (c 1) H.size st.2.2.1 (st.1 0) (p0 &&& (31 : Int32)) hW (a31_in p0)) (cwV 2 ht (zgV zw_574 zw_575 zw_576 zw_5 zw_577) rfl rfl rfl kd_R_read ⟨Nat.le_of_ble_eq_true rfl, Nat.le_of_ble_eq_true rfl⟩) ⟨zw_blind zw_tt, va_recv (hK.sub (tys' := [((c 1), .int)]) [1] rfl) (hP.sub (ws' := wR (h 3) (h 4) (c 1) st.2.2.1) [3, 4] rfl) (ci := 4) (q0 := 0) rfl rfl, zw_go (hP.sub (ws' := wR (h 3) (h 4) (c 1) st.2.2.1) [3, 4] rfl) (hD.sub (ws' := wR (h 3) (h 4) (c 1) st.2.2.1) [3, 4] (by decide) rfl) (hK.sub (tys' := [((c 1), .int)]) [1] rfl) (fun _ _ _ => trivial)⟩ rfl rfl hl.1 rfl (lv_room (Nat.le_of_ble_eq_true rfl)) d_P_secondOperand_42 ⟨Nat.le_of_ble_eq_true rfl, Nat.le_of_ble_eq_true rfl⟩) hP hD hS hA [3, 4] [0, 1, 2, 5] [0, 1, 2, 4, 5, 3] rfl rfl (by decide) (by decide) (by decide) (fun _ => rfl) (fun r_7 _ H locs hw hP hD hS => ?_)
      subst hw
      exact J_5 (f_rread st.2.2.1 (st.1 0) (p0 &&& (31 : Int32))) _ _ _ ⟨by simp only [if_pos c_6], hP, hD, hS, (lv_sub hl [1, 2, 0] rfl)⟩
    refine lv_iload_n hx hb d_P_secondOperand_20 rfl (lv_at hl 2 rfl) ?_
    refine lv_bipush (v := (19 : Int32)) hx hb d_P_secondOperand_21 (by decide) ?_
    refine lv_ishl hx hb d_P_secondOperand_23 ?_
    refine lv_bipush (v := (19 : Int32)) hx hb d_P_secondOperand_24 (by decide) ?_
    refine lv_ishr hx hb d_P_secondOperand_26 ?_
    refine lv_goto (tgt := 45) hx hb d_P_secondOperand_27 (by decide) ?_
    exact J_5 ((p0 <<< ((19 : Int32) &&& 31)) >>> ((19 : Int32) &&& 31)) _ _ _ ⟨by simp only [if_neg c_6], hP, hD, hS, (lv_sub hl [1, 2, 0] rfl)⟩
  obtain ⟨x_4, rfl⟩ : ∃ z, z = v9 := ⟨_, rfl⟩
  obtain ⟨ex_4, hP, hD, hS, hl⟩ := hG
  exact zl_i (u := ()) hx hb hr hlocks hS hP hD (by subst ex_1; subst ex_4; simp only [f_secondOperand]) d_P_secondOperand_45
theorem d_P_call_0 : decode c_P_call 0 = .ok (.aload_n 0, 1) := by decide +kernel
theorem d_P_call_1 : decode c_P_call 1 = .ok (.aload_n 0, 1) := by decide +kernel
theorem d_P_call_2 : decode c_P_call 2 = .ok (.getfield 44, 3) := by decide +kernel
theorem d_P_call_5 : decode c_P_call 5 = .ok (.iload_n 1, 1) := by decide +kernel
theorem d_P_call_6 : decode c_P_call 6 = .ok (.iconst 2, 1) := by decide +kernel
theorem d_P_call_7 : decode c_P_call 7 = .ok (.ishl, 1) := by decide +kernel
theorem d_P_call_8 : decode c_P_call 8 = .ok (.iadd, 1) := by decide +kernel
theorem d_P_call_9 : decode c_P_call 9 = .ok (.putfield 88, 3) := by decide +kernel
theorem d_P_call_12 : decode c_P_call 12 = .ok (.aload_n 0, 1) := by decide +kernel
theorem d_P_call_13 : decode c_P_call 13 = .ok (.getfield 18, 3) := by decide +kernel
theorem d_P_call_16 : decode c_P_call 16 = .ok (.aload_n 0, 1) := by decide +kernel
theorem d_P_call_17 : decode c_P_call 17 = .ok (.getfield 36, 3) := by decide +kernel
theorem d_P_call_20 : decode c_P_call 20 = .ok (.bipush 15, 2) := by decide +kernel
theorem d_P_call_22 : decode c_P_call 22 = .ok (.aload_n 0, 1) := by decide +kernel
theorem d_P_call_23 : decode c_P_call 23 = .ok (.getfield 44, 3) := by decide +kernel
theorem d_P_call_26 : decode c_P_call 26 = .ok (.invokevirtual 101, 3) := by decide +kernel
theorem d_P_call_29 : decode c_P_call 29 = .ok (.iconst (-1), 1) := by decide +kernel
theorem d_P_call_30 : decode c_P_call 30 = .ok (.ireturn, 1) := by decide +kernel
theorem kd_P_call : (y_P_call).cls = "WindowMachine$Processor" ∧ (y_P_call).cls ≠ "java/lang/invoke/MethodHandle" ∧ (y_P_call).cls ≠ "java/lang/invoke/VarHandle" ∧ (parseMethodDescriptor (y_P_call).desc).map (fun d => d.parameters.length) = some 1 := by decide +kernel
def f_call (st : SP) (p0 : Int32) : Int32 × SP := (let u_1 := f_rwrite st.2.2.1 (st.1 0) (15 : Int32) (st.1 8); ((-1 : Int32), (upd st.1 10 ((st.1 8) + (p0 <<< ((2 : Int32) &&& 31))), st.2.1, u_1, st.2.2.2)))
set_option maxHeartbeats 4000000 in
set_option maxRecDepth 100000 in
theorem mt_P_call (l : Launch) (D : va_G) (h : Nat → Nat) (c : Nat → ClassId) (sz : Nat) (st : SP) (p0 : Int32) (hW : vp_in (st.1 0) 4) : Met l y_P_call w_P_call ({ frames := 2, cells := 0, slots := 0, locals := 44 }) (va_Pc [.ref (h 0), .int p0] (zw_pre D vwCl [(c 0, .int), (c 1, .int)] sz (wP h c st) (fun _ => True))) (va_Qi (fun r (u : SP) => r = (f_call st p0).1 ∧ u = (f_call st p0).2) (fun u t => zw_at D vwCl (va_A (wP h c st) sz) ((fun (u : SP) => wP h c u) u) t) (va_A (wP h c st) sz)) 0 0 (va_A (wP h c st) sz) := by
  refine zm (Qf := fun A => va_Qi (fun r (u : SP) => r = (f_call st p0).1 ∧ u = (f_call st p0).2) (fun u t => zw_at D vwCl A ((fun (u : SP) => wP h c u) u) t) A) (Zf := fun _ _ => True) (cc := c_P_call) (nL := 2) (ret := (some .int)) (by decide) rfl (Nat.le_of_ble_eq_true rfl) ?_
  intro p e s m below meth c9 A H locs ls hx hb hml hown hts hr hlocks hA hK hP hD hS hZ hl
  have hl : lv_has ls 2 [(0, .ref (h 0)), (1, .int p0)] := hl
  have ht : ∀ w9 ∈ zT, w9.before _ s = true := fun w9 h9 => hts w9 (List.mem_cons_of_mem _ h9)
  refine lv_aload_n hx hb d_P_call_0 rfl (lv_at hl 0 rfl) ?_
  refine lv_aload_n hx hb d_P_call_1 rfl (lv_at hl 0 rfl) ?_
  refine va_get (D := D) (ci := 2) (v := .int (st.1 8)) (C := "WindowMachine$Processor") (T := T_P) (N := 18) hx hb ht zi_P hown hK hP 0 rfl rfl 11 (by decide) (ht _ zw_129) (fun _ h9 => h9) rfl d_P_call_2 ?_
  refine lv_iload_n hx hb d_P_call_5 rfl (lv_at hl 1 rfl) ?_
  refine lv_iconst (v := (2 : Int32)) hx hb d_P_call_6 (by decide) ?_
  refine lv_ishl hx hb d_P_call_7 ?_
  refine lv_iadd hx hb d_P_call_8 ?_
  refine va_put (D := D) (ci := 2) (v := .int ((st.1 8) + (p0 <<< ((2 : Int32) &&& 31)))) (ty := .int) (C := "WindowMachine$Processor") (T := T_P) (N := 18) hx hb ht zi_P ty_P tyok_P nm_P hown hK hP hD hS 0 rfl rfl 13 (by decide) (ht _ zw_131) (fun _ h9 => h9) rfl (by decide +kernel) rfl rfl (Nat.le_of_ble_eq_true rfl) d_P_call_9 (fun H locs hP hD hS => ?_)
  have hP : va_P D vwCl (wP h c (upd st.1 10 ((st.1 8) + (p0 <<< ((2 : Int32) &&& 31))), st.2.1, st.2.2.1, st.2.2.2)) H := hP
  have hD : va_D A (wP h c (upd st.1 10 ((st.1 8) + (p0 <<< ((2 : Int32) &&& 31))), st.2.1, st.2.2.1, st.2.2.2)) := hD
  refine lv_aload_n hx hb d_P_call_12 rfl (lv_at hl 0 rfl) ?_
  refine va_get (D := D) (ci := 2) (v := .ref (h 3)) (C := "WindowMachine$Processor") (T := T_P) (N := 18) hx hb ht zi_P hown hK hP 0 rfl rfl 1 (by decide) (ht _ zw_117) (fun _ h9 => h9) rfl d_P_call_13 ?_
  refine lv_aload_n hx hb d_P_call_16 rfl (lv_at hl 0 rfl) ?_
  refine va_get (D := D) (ci := 2) (v := .int (st.1 0)) (C := "WindowMachine$Processor") (T := T_P) (N := 18) hx hb ht zi_P hown hK hP 0 rfl rfl 3 (by decide) (ht _ zw_120) (fun _ h9 => h9) rfl d_P_call_17 ?_
  refine lv_bipush (v := (15 : Int32)) hx hb d_P_call_20 (by decide) ?_
  refine lv_aload_n hx hb d_P_call_22 rfl (lv_at hl 0 rfl) ?_
  refine va_get (D := D) (ci := 2) (v := .int (st.1 8)) (C := "WindowMachine$Processor") (T := T_P) (N := 18) hx hb ht zi_P hown hK hP 0 rfl rfl 11 (by decide) (ht _ zw_129) (fun _ h9 => h9) rfl d_P_call_23 ?_
  refine zc_v (w2 := fun u9 => wP h c (upd st.1 10 ((st.1 8) + (p0 <<< ((2 : Int32) &&& 31))), st.2.1, u9, st.2.2.2)) (va_runV (As := [.int (st.1 0), .int (15 : Int32), .int (st.1 8)]) (rest := []) ⟨hx, hb, hml, hown, ht⟩ (mt_R_write l D (h 3) (h 4) (c 1) H.size st.2.2.1 (st.1 0) (15 : Int32) (st.1 8) hW (by unfold vp_in; decide)) (cwV 3 ht (zgV zw_553 zw_554 zw_555 zw_5 zw_556) rfl rfl rfl kd_R_write ⟨Nat.le_of_ble_eq_true rfl, Nat.le_of_ble_eq_true rfl⟩) ⟨zw_blind zw_tt, va_recv (hK.sub (tys' := [((c 1), .int)]) [1] rfl) (hP.sub (ws' := wR (h 3) (h 4) (c 1) st.2.2.1) [3, 4] rfl) (ci := 4) (q0 := 0) rfl rfl, zw_go (hP.sub (ws' := wR (h 3) (h 4) (c 1) st.2.2.1) [3, 4] rfl) (hD.sub (ws' := wR (h 3) (h 4) (c 1) st.2.2.1) [3, 4] (by decide) rfl) (hK.sub (tys' := [((c 1), .int)]) [1] rfl) (fun _ _ _ => trivial)⟩ rfl rfl hl.1 rfl (lv_room (Nat.le_of_ble_eq_true rfl)) d_P_call_26 ⟨Nat.le_of_ble_eq_true rfl, Nat.le_of_ble_eq_true rfl⟩) hP hD hS hA [3, 4] [0, 1, 2, 5] [0, 1, 2, 4, 5, 3] rfl rfl (by decide) (by decide) (by decide) (fun _ => rfl) (fun u_1 H locs hw hP hD hS => ?_)
  have eu_1 := hw
  refine lv_iconst (v := (-1 : Int32)) hx hb d_P_call_29 (by decide) ?_
  exact zl_i (u := (upd st.1 10 ((st.1 8) + (p0 <<< ((2 : Int32) &&& 31))), st.2.1, u_1, st.2.2.2)) hx hb hr hlocks hS hP hD (⟨by subst eu_1; simp only [f_call], by subst eu_1; simp only [f_call]⟩) d_P_call_30
theorem d_P_isMet_0 : decode c_P_isMet 0 = .ok (.aload_n 0, 1) := by decide +kernel
theorem d_P_isMet_1 : decode c_P_isMet 1 = .ok (.getfield 63, 3) := by decide +kernel
theorem d_P_isMet_4 : decode c_P_isMet 4 = .ok (.iconst 1, 1) := by decide +kernel
theorem d_P_isMet_5 : decode c_P_isMet 5 = .ok (.iand, 1) := by decide +kernel
theorem d_P_isMet_6 : decode c_P_isMet 6 = .ok (.ifCond .eq 7, 3) := by decide +kernel
theorem d_P_isMet_9 : decode c_P_isMet 9 = .ok (.iconst 1, 1) := by decide +kernel
theorem d_P_isMet_10 : decode c_P_isMet 10 = .ok (.goto 4, 3) := by decide +kernel
theorem d_P_isMet_13 : decode c_P_isMet 13 = .ok (.iconst 0, 1) := by decide +kernel
theorem d_P_isMet_14 : decode c_P_isMet 14 = .ok (.istore_n 2, 1) := by decide +kernel
theorem d_P_isMet_15 : decode c_P_isMet 15 = .ok (.aload_n 0, 1) := by decide +kernel
theorem d_P_isMet_16 : decode c_P_isMet 16 = .ok (.getfield 63, 3) := by decide +kernel
theorem d_P_isMet_19 : decode c_P_isMet 19 = .ok (.iconst 2, 1) := by decide +kernel
theorem d_P_isMet_20 : decode c_P_isMet 20 = .ok (.iand, 1) := by decide +kernel
theorem d_P_isMet_21 : decode c_P_isMet 21 = .ok (.ifCond .eq 7, 3) := by decide +kernel
theorem d_P_isMet_24 : decode c_P_isMet 24 = .ok (.iconst 1, 1) := by decide +kernel
theorem d_P_isMet_25 : decode c_P_isMet 25 = .ok (.goto 4, 3) := by decide +kernel
theorem d_P_isMet_28 : decode c_P_isMet 28 = .ok (.iconst 0, 1) := by decide +kernel
theorem d_P_isMet_29 : decode c_P_isMet 29 = .ok (.istore_n 3, 1) := by decide +kernel
theorem d_P_isMet_30 : decode c_P_isMet 30 = .ok (.aload_n 0, 1) := by decide +kernel
theorem d_P_isMet_31 : decode c_P_isMet 31 = .ok (.getfield 63, 3) := by decide +kernel
theorem d_P_isMet_34 : decode c_P_isMet 34 = .ok (.iconst 4, 1) := by decide +kernel
theorem d_P_isMet_35 : decode c_P_isMet 35 = .ok (.iand, 1) := by decide +kernel
theorem d_P_isMet_36 : decode c_P_isMet 36 = .ok (.ifCond .eq 7, 3) := by decide +kernel
theorem d_P_isMet_39 : decode c_P_isMet 39 = .ok (.iconst 1, 1) := by decide +kernel
theorem d_P_isMet_40 : decode c_P_isMet 40 = .ok (.goto 4, 3) := by decide +kernel
theorem d_P_isMet_43 : decode c_P_isMet 43 = .ok (.iconst 0, 1) := by decide +kernel
theorem d_P_isMet_44 : decode c_P_isMet 44 = .ok (.istore 4, 2) := by decide +kernel
theorem d_P_isMet_46 : decode c_P_isMet 46 = .ok (.aload_n 0, 1) := by decide +kernel
theorem d_P_isMet_47 : decode c_P_isMet 47 = .ok (.getfield 63, 3) := by decide +kernel
theorem d_P_isMet_50 : decode c_P_isMet 50 = .ok (.bipush 8, 2) := by decide +kernel
theorem d_P_isMet_52 : decode c_P_isMet 52 = .ok (.iand, 1) := by decide +kernel
theorem d_P_isMet_53 : decode c_P_isMet 53 = .ok (.ifCond .eq 7, 3) := by decide +kernel
theorem d_P_isMet_56 : decode c_P_isMet 56 = .ok (.iconst 1, 1) := by decide +kernel
theorem d_P_isMet_57 : decode c_P_isMet 57 = .ok (.goto 4, 3) := by decide +kernel
theorem d_P_isMet_60 : decode c_P_isMet 60 = .ok (.iconst 0, 1) := by decide +kernel
theorem d_P_isMet_61 : decode c_P_isMet 61 = .ok (.istore 5, 2) := by decide +kernel
theorem d_P_isMet_63 : decode c_P_isMet 63 = .ok (.iload_n 1, 1) := by decide +kernel
theorem d_P_isMet_64 : decode c_P_isMet 64 = .ok (.bipush 7, 2) := by decide +kernel
theorem d_P_isMet_66 : decode c_P_isMet 66 = .ok (.iand, 1) := by decide +kernel
theorem d_P_isMet_67 : decode c_P_isMet 67 = .ok (.tableswitch 123 1 7 #[41, 48, 69, 85, 104, 110, 117], 41) := by decide +kernel
theorem d_P_isMet_108 : decode c_P_isMet 108 = .ok (.iload 4, 2) := by decide +kernel
theorem d_P_isMet_110 : decode c_P_isMet 110 = .ok (.istore 6, 2) := by decide +kernel
theorem d_P_isMet_112 : decode c_P_isMet 112 = .ok (.goto 81, 3) := by decide +kernel
theorem d_P_isMet_115 : decode c_P_isMet 115 = .ok (.iload 4, 2) := by decide +kernel
theorem d_P_isMet_117 : decode c_P_isMet 117 = .ok (.ifCond .ne 9, 3) := by decide +kernel
theorem d_P_isMet_120 : decode c_P_isMet 120 = .ok (.iload 5, 2) := by decide +kernel
theorem d_P_isMet_122 : decode c_P_isMet 122 = .ok (.iload_n 3, 1) := by decide +kernel
theorem d_P_isMet_123 : decode c_P_isMet 123 = .ok (.if_icmp .eq 7, 3) := by decide +kernel
theorem d_P_isMet_126 : decode c_P_isMet 126 = .ok (.iconst 1, 1) := by decide +kernel
theorem d_P_isMet_127 : decode c_P_isMet 127 = .ok (.goto 4, 3) := by decide +kernel
theorem d_P_isMet_130 : decode c_P_isMet 130 = .ok (.iconst 0, 1) := by decide +kernel
theorem d_P_isMet_131 : decode c_P_isMet 131 = .ok (.istore 6, 2) := by decide +kernel
theorem d_P_isMet_133 : decode c_P_isMet 133 = .ok (.goto 60, 3) := by decide +kernel
theorem d_P_isMet_136 : decode c_P_isMet 136 = .ok (.iload 5, 2) := by decide +kernel
theorem d_P_isMet_138 : decode c_P_isMet 138 = .ok (.iload_n 3, 1) := by decide +kernel
theorem d_P_isMet_139 : decode c_P_isMet 139 = .ok (.if_icmp .eq 7, 3) := by decide +kernel
theorem d_P_isMet_142 : decode c_P_isMet 142 = .ok (.iconst 1, 1) := by decide +kernel
theorem d_P_isMet_143 : decode c_P_isMet 143 = .ok (.goto 4, 3) := by decide +kernel
theorem d_P_isMet_146 : decode c_P_isMet 146 = .ok (.iconst 0, 1) := by decide +kernel
theorem d_P_isMet_147 : decode c_P_isMet 147 = .ok (.istore 6, 2) := by decide +kernel
theorem d_P_isMet_149 : decode c_P_isMet 149 = .ok (.goto 44, 3) := by decide +kernel
theorem d_P_isMet_152 : decode c_P_isMet 152 = .ok (.iload_n 2, 1) := by decide +kernel
theorem d_P_isMet_153 : decode c_P_isMet 153 = .ok (.ifCond .ne 8, 3) := by decide +kernel
theorem d_P_isMet_156 : decode c_P_isMet 156 = .ok (.iload 4, 2) := by decide +kernel
theorem d_P_isMet_158 : decode c_P_isMet 158 = .ok (.ifCond .eq 7, 3) := by decide +kernel
theorem d_P_isMet_161 : decode c_P_isMet 161 = .ok (.iconst 1, 1) := by decide +kernel
theorem d_P_isMet_162 : decode c_P_isMet 162 = .ok (.goto 4, 3) := by decide +kernel
theorem d_P_isMet_165 : decode c_P_isMet 165 = .ok (.iconst 0, 1) := by decide +kernel
theorem d_P_isMet_166 : decode c_P_isMet 166 = .ok (.istore 6, 2) := by decide +kernel
theorem d_P_isMet_168 : decode c_P_isMet 168 = .ok (.goto 25, 3) := by decide +kernel
theorem d_P_isMet_171 : decode c_P_isMet 171 = .ok (.iload_n 2, 1) := by decide +kernel
theorem d_P_isMet_172 : decode c_P_isMet 172 = .ok (.istore 6, 2) := by decide +kernel
theorem d_P_isMet_174 : decode c_P_isMet 174 = .ok (.goto 19, 3) := by decide +kernel
theorem d_P_isMet_177 : decode c_P_isMet 177 = .ok (.iload 5, 2) := by decide +kernel
theorem d_P_isMet_179 : decode c_P_isMet 179 = .ok (.istore 6, 2) := by decide +kernel
theorem d_P_isMet_181 : decode c_P_isMet 181 = .ok (.goto 12, 3) := by decide +kernel
theorem d_P_isMet_184 : decode c_P_isMet 184 = .ok (.iload_n 3, 1) := by decide +kernel
theorem d_P_isMet_185 : decode c_P_isMet 185 = .ok (.istore 6, 2) := by decide +kernel
theorem d_P_isMet_187 : decode c_P_isMet 187 = .ok (.goto 6, 3) := by decide +kernel
theorem d_P_isMet_190 : decode c_P_isMet 190 = .ok (.iconst 0, 1) := by decide +kernel
theorem d_P_isMet_191 : decode c_P_isMet 191 = .ok (.istore 6, 2) := by decide +kernel
theorem d_P_isMet_193 : decode c_P_isMet 193 = .ok (.iload_n 1, 1) := by decide +kernel
theorem d_P_isMet_194 : decode c_P_isMet 194 = .ok (.bipush 8, 2) := by decide +kernel
theorem d_P_isMet_196 : decode c_P_isMet 196 = .ok (.if_icmp .lt 16, 3) := by decide +kernel
theorem d_P_isMet_199 : decode c_P_isMet 199 = .ok (.iload 6, 2) := by decide +kernel
theorem d_P_isMet_201 : decode c_P_isMet 201 = .ok (.ifCond .ne 7, 3) := by decide +kernel
theorem d_P_isMet_204 : decode c_P_isMet 204 = .ok (.iconst 1, 1) := by decide +kernel
theorem d_P_isMet_205 : decode c_P_isMet 205 = .ok (.goto 9, 3) := by decide +kernel
theorem d_P_isMet_208 : decode c_P_isMet 208 = .ok (.iconst 0, 1) := by decide +kernel
theorem d_P_isMet_209 : decode c_P_isMet 209 = .ok (.goto 5, 3) := by decide +kernel
theorem d_P_isMet_212 : decode c_P_isMet 212 = .ok (.iload 6, 2) := by decide +kernel
theorem d_P_isMet_214 : decode c_P_isMet 214 = .ok (.ireturn, 1) := by decide +kernel
theorem kd_P_isMet : (y_P_isMet).cls = "WindowMachine$Processor" ∧ (y_P_isMet).cls ≠ "java/lang/invoke/MethodHandle" ∧ (y_P_isMet).cls ≠ "java/lang/invoke/VarHandle" ∧ (parseMethodDescriptor (y_P_isMet).desc).map (fun d => d.parameters.length) = some 1 := by decide +kernel
def f_isMet (st : SP) (p0 : Int32) : Int32 := (let x_1 := (if ((st.1 1) &&& (1 : Int32)) = (0 : Int32) then (0 : Int32) else (1 : Int32)); (let x_4 := (if ((st.1 1) &&& (2 : Int32)) = (0 : Int32) then (0 : Int32) else (1 : Int32)); (let x_7 := (if ((st.1 1) &&& (4 : Int32)) = (0 : Int32) then (0 : Int32) else (1 : Int32)); (let x_10 := (if ((st.1 1) &&& (8 : Int32)) = (0 : Int32) then (0 : Int32) else (1 : Int32)); (let x_13 := (if (p0 &&& (7 : Int32)) = (1 : Int32) then x_7 else (if (p0 &&& (7 : Int32)) = (2 : Int32) then (if x_7 = (0 : Int32) then (if x_10 = x_4 then (0 : Int32) else (1 : Int32)) else (1 : Int32)) else (if (p0 &&& (7 : Int32)) = (3 : Int32) then (if x_10 = x_4 then (0 : Int32) else (1 : Int32)) else (if (p0 &&& (7 : Int32)) = (4 : Int32) then (if x_1 = (0 : Int32) then (if x_7 = (0 : Int32) then (0 : Int32) else (1 : Int32)) else (1 : Int32)) else (if (p0 &&& (7 : Int32)) = (5 : Int32) then x_1 else (if (p0 &&& (7 : Int32)) = (6 : Int32) then x_10 else (if (p0 &&& (7 : Int32)) = (7 : Int32) then x_4 else (0 : Int32)))))))); (let x_34 := (if p0 < (8 : Int32) then x_13 else (if x_13 = (0 : Int32) then (1 : Int32) else (0 : Int32))); x_34))))))
set_option maxHeartbeats 4000000 in
set_option maxRecDepth 100000 in
theorem mt_P_isMet (l : Launch) (D : va_G) (h : Nat → Nat) (c : Nat → ClassId) (sz : Nat) (st : SP) (p0 : Int32) : Met l y_P_isMet w_P_isMet ({ frames := 0, cells := 0, slots := 0, locals := 0 }) (va_Pc [.ref (h 0), .int p0] (zw_pre D vwCl [(c 0, .int), (c 1, .int)] sz (wP h c st) (fun _ => True))) (va_Qi (fun r (_ : Unit) => r = f_isMet st p0) (fun u t => zw_at D vwCl (va_A (wP h c st) sz) ((fun (_ : Unit) => wP h c st) u) t) (va_A (wP h c st) sz)) 0 0 (va_A (wP h c st) sz) := by
  refine zm (Qf := fun A => va_Qi (fun r (_ : Unit) => r = f_isMet st p0) (fun u t => zw_at D vwCl A ((fun (_ : Unit) => wP h c st) u) t) A) (Zf := fun _ _ => True) (cc := c_P_isMet) (nL := 7) (ret := (some .boolean)) (by decide) rfl (Nat.le_of_ble_eq_true rfl) ?_
  intro p e s m below meth c9 A H locs ls hx hb hml hown hts hr hlocks hA hK hP hD hS hZ hl
  have hl : lv_has ls 7 [(0, .ref (h 0)), (1, .int p0)] := hl
  have ht : ∀ w9 ∈ zT, w9.before _ s = true := fun w9 h9 => hts w9 (List.mem_cons_of_mem _ h9)
  refine lv_aload_n hx hb d_P_isMet_0 rfl (lv_at hl 0 rfl) ?_
  refine va_get (D := D) (ci := 2) (v := .int (st.1 1)) (C := "WindowMachine$Processor") (T := T_P) (N := 18) hx hb ht zi_P hown hK hP 0 rfl rfl 4 (by decide) (ht _ zw_122) (fun _ h9 => h9) rfl d_P_isMet_1 ?_
  refine lv_iconst (v := (1 : Int32)) hx hb d_P_isMet_4 (by decide) ?_
  refine lv_iand hx hb d_P_isMet_5 ?_
  refine zcut (X := Int32) (G := fun v9 H locs ls => v9 = (if ((st.1 1) &&& (1 : Int32)) = (0 : Int32) then (0 : Int32) else (1 : Int32)) ∧ va_P D vwCl (wP h c st) H ∧ va_D A (wP h c st) ∧ va_S A s.heap H locs ∧ lv_has ls 7 [(0, .ref (h 0)), (1, .int p0)]) (fr := fun v9 ls => F0 m 14 ls [.int v9]) (fun J_2 => ?_) (fun v9 H locs ls hG => ?_)
  · refine lv_if_eq (tgt := 13) hx hb d_P_isMet_6 (by decide) (fun c_3 => ?_) (fun c_3 => ?_)
    · refine lv_iconst (v := (0 : Int32)) hx hb d_P_isMet_13 (by decide) ?_
      exact J_2 (0 : Int32) _ _ _ ⟨by simp only [if_pos c_3], hP, hD, hS, hl⟩
    refine lv_iconst (v := (1 : Int32)) hx hb d_P_isMet_9 (by decide) ?_
    refine lv_goto (tgt := 14) hx hb d_P_isMet_10 (by decide) ?_
    exact J_2 (1 : Int32) _ _ _ ⟨by simp only [if_neg c_3], hP, hD, hS, hl⟩
  obtain ⟨x_1, rfl⟩ : ∃ z, z = v9 := ⟨_, rfl⟩
  obtain ⟨ex_1, hP, hD, hS, hl⟩ := hG
  have zbx_1 : zB x_1 := by rw [ex_1]; repeat' first | exact zB0 | exact zB1 | assumption | apply zB_ite
  refine lv_istore_n (lv' := [(2, .int x_1), (0, .ref (h 0)), (1, .int p0)]) hx hb d_P_isMet_14 rfl hl (by decide) rfl (fun ls hl => ?_)
  refine lv_aload_n hx hb d_P_isMet_15 rfl (lv_at hl 1 rfl) ?_
  refine va_get (D := D) (ci := 2) (v := .int (st.1 1)) (C := "WindowMachine$Processor") (T := T_P) (N := 18) hx hb ht zi_P hown hK hP 0 rfl rfl 4 (by decide) (ht _ zw_122) (fun _ h9 => h9) rfl d_P_isMet_16 ?_
  refine lv_iconst (v := (2 : Int32)) hx hb d_P_isMet_19 (by decide) ?_
  refine lv_iand hx hb d_P_isMet_20 ?_
  refine zcut (X := Int32) (G := fun v9 H locs ls => v9 = (if ((st.1 1) &&& (2 : Int32)) = (0 : Int32) then (0 : Int32) else (1 : Int32)) ∧ va_P D vwCl (wP h c st) H ∧ va_D A (wP h c st) ∧ va_S A s.heap H locs ∧ lv_has ls 7 [(0, .ref (h 0)), (1, .int p0), (2, .int x_1)]) (fr := fun v9 ls => F0 m 29 ls [.int v9]) (fun J_5 => ?_) (fun v9 H locs ls hG => ?_)
  · refine lv_if_eq (tgt := 28) hx hb d_P_isMet_21 (by decide) (fun c_6 => ?_) (fun c_6 => ?_)
    · refine lv_iconst (v := (0 : Int32)) hx hb d_P_isMet_28 (by decide) ?_
      exact J_5 (0 : Int32) _ _ _ ⟨by simp only [if_pos c_6], hP, hD, hS, (lv_sub hl [1, 2, 0] rfl)⟩
    refine lv_iconst (v := (1 : Int32)) hx hb d_P_isMet_24 (by decide) ?_
    refine lv_goto (tgt := 29) hx hb d_P_isMet_25 (by decide) ?_
    exact J_5 (1 : Int32) _ _ _ ⟨by simp only [if_neg c_6], hP, hD, hS, (lv_sub hl [1, 2, 0] rfl)⟩
  obtain ⟨x_4, rfl⟩ : ∃ z, z = v9 := ⟨_, rfl⟩
  obtain ⟨ex_4, hP, hD, hS, hl⟩ := hG
  have zbx_4 : zB x_4 := by rw [ex_4]; repeat' first | exact zB0 | exact zB1 | assumption | apply zB_ite
  refine lv_istore_n (lv' := [(3, .int x_4), (0, .ref (h 0)), (1, .int p0), (2, .int x_1)]) hx hb d_P_isMet_29 rfl hl (by decide) rfl (fun ls hl => ?_)
  refine lv_aload_n hx hb d_P_isMet_30 rfl (lv_at hl 1 rfl) ?_
  refine va_get (D := D) (ci := 2) (v := .int (st.1 1)) (C := "WindowMachine$Processor") (T := T_P) (N := 18) hx hb ht zi_P hown hK hP 0 rfl rfl 4 (by decide) (ht _ zw_122) (fun _ h9 => h9) rfl d_P_isMet_31 ?_
  refine lv_iconst (v := (4 : Int32)) hx hb d_P_isMet_34 (by decide) ?_
  refine lv_iand hx hb d_P_isMet_35 ?_
  refine zcut (X := Int32) (G := fun v9 H locs ls => v9 = (if ((st.1 1) &&& (4 : Int32)) = (0 : Int32) then (0 : Int32) else (1 : Int32)) ∧ va_P D vwCl (wP h c st) H ∧ va_D A (wP h c st) ∧ va_S A s.heap H locs ∧ lv_has ls 7 [(0, .ref (h 0)), (1, .int p0), (2, .int x_1), (3, .int x_4)]) (fr := fun v9 ls => F0 m 44 ls [.int v9]) (fun J_8 => ?_) (fun v9 H locs ls hG => ?_)
  · refine lv_if_eq (tgt := 43) hx hb d_P_isMet_36 (by decide) (fun c_9 => ?_) (fun c_9 => ?_)
    · refine lv_iconst (v := (0 : Int32)) hx hb d_P_isMet_43 (by decide) ?_
      exact J_8 (0 : Int32) _ _ _ ⟨by simp only [if_pos c_9], hP, hD, hS, (lv_sub hl [1, 2, 3, 0] rfl)⟩
    refine lv_iconst (v := (1 : Int32)) hx hb d_P_isMet_39 (by decide) ?_
    refine lv_goto (tgt := 44) hx hb d_P_isMet_40 (by decide) ?_
    exact J_8 (1 : Int32) _ _ _ ⟨by simp only [if_neg c_9], hP, hD, hS, (lv_sub hl [1, 2, 3, 0] rfl)⟩
  obtain ⟨x_7, rfl⟩ : ∃ z, z = v9 := ⟨_, rfl⟩
  obtain ⟨ex_7, hP, hD, hS, hl⟩ := hG
  have zbx_7 : zB x_7 := by rw [ex_7]; repeat' first | exact zB0 | exact zB1 | assumption | apply zB_ite
  refine lv_istore (lv' := [(4, .int x_7), (0, .ref (h 0)), (1, .int p0), (2, .int x_1), (3, .int x_4)]) hx hb d_P_isMet_44 hl (by decide) rfl (fun ls hl => ?_)
  refine lv_aload_n hx hb d_P_isMet_46 rfl (lv_at hl 1 rfl) ?_
  refine va_get (D := D) (ci := 2) (v := .int (st.1 1)) (C := "WindowMachine$Processor") (T := T_P) (N := 18) hx hb ht zi_P hown hK hP 0 rfl rfl 4 (by decide) (ht _ zw_122) (fun _ h9 => h9) rfl d_P_isMet_47 ?_
  refine lv_bipush (v := (8 : Int32)) hx hb d_P_isMet_50 (by decide) ?_
  refine lv_iand hx hb d_P_isMet_52 ?_
  refine zcut (X := Int32) (G := fun v9 H locs ls => v9 = (if ((st.1 1) &&& (8 : Int32)) = (0 : Int32) then (0 : Int32) else (1 : Int32)) ∧ va_P D vwCl (wP h c st) H ∧ va_D A (wP h c st) ∧ va_S A s.heap H locs ∧ lv_has ls 7 [(0, .ref (h 0)), (1, .int p0), (2, .int x_1), (3, .int x_4), (4, .int x_7)]) (fr := fun v9 ls => F0 m 61 ls [.int v9]) (fun J_11 => ?_) (fun v9 H locs ls hG => ?_)
  · refine lv_if_eq (tgt := 60) hx hb d_P_isMet_53 (by decide) (fun c_12 => ?_) (fun c_12 => ?_)
    · refine lv_iconst (v := (0 : Int32)) hx hb d_P_isMet_60 (by decide) ?_
      exact J_11 (0 : Int32) _ _ _ ⟨by simp only [if_pos c_12], hP, hD, hS, (lv_sub hl [1, 2, 3, 4, 0] rfl)⟩
    refine lv_iconst (v := (1 : Int32)) hx hb d_P_isMet_56 (by decide) ?_
    refine lv_goto (tgt := 61) hx hb d_P_isMet_57 (by decide) ?_
    exact J_11 (1 : Int32) _ _ _ ⟨by simp only [if_neg c_12], hP, hD, hS, (lv_sub hl [1, 2, 3, 4, 0] rfl)⟩
  obtain ⟨x_10, rfl⟩ : ∃ z, z = v9 := ⟨_, rfl⟩
  obtain ⟨ex_10, hP, hD, hS, hl⟩ := hG
  have zbx_10 : zB x_10 := by rw [ex_10]; repeat' first | exact zB0 | exact zB1 | assumption | apply zB_ite
  refine lv_istore (lv' := [(5, .int x_10), (0, .ref (h 0)), (1, .int p0), (2, .int x_1), (3, .int x_4), (4, .int x_7)]) hx hb d_P_isMet_61 hl (by decide) rfl (fun ls hl => ?_)
  refine lv_iload_n hx hb d_P_isMet_63 rfl (lv_at hl 2 rfl) ?_
  refine lv_bipush (v := (7 : Int32)) hx hb d_P_isMet_64 (by decide) ?_
  refine lv_iand hx hb d_P_isMet_66 ?_
  refine zcut (X := Int32) (G := fun v9 H locs ls => v9 = (if (p0 &&& (7 : Int32)) = (1 : Int32) then x_7 else (if (p0 &&& (7 : Int32)) = (2 : Int32) then (if x_7 = (0 : Int32) then (if x_10 = x_4 then (0 : Int32) else (1 : Int32)) else (1 : Int32)) else (if (p0 &&& (7 : Int32)) = (3 : Int32) then (if x_10 = x_4 then (0 : Int32) else (1 : Int32)) else (if (p0 &&& (7 : Int32)) = (4 : Int32) then (if x_1 = (0 : Int32) then (if x_7 = (0 : Int32) then (0 : Int32) else (1 : Int32)) else (1 : Int32)) else (if (p0 &&& (7 : Int32)) = (5 : Int32) then x_1 else (if (p0 &&& (7 : Int32)) = (6 : Int32) then x_10 else (if (p0 &&& (7 : Int32)) = (7 : Int32) then x_4 else (0 : Int32)))))))) ∧ va_P D vwCl (wP h c st) H ∧ va_D A (wP h c st) ∧ va_S A s.heap H locs ∧ lv_has ls 7 [(0, .ref (h 0)), (1, .int p0), (2, .int x_1), (3, .int x_4), (4, .int x_7), (5, .int x_10), (6, .int v9)]) (fr := fun v9 ls => F0 m 193 ls []) (fun J_14 => ?_) (fun v9 H locs ls hG => ?_)
  · by_cases c_16 : (p0 &&& (7 : Int32)) = (1 : Int32)
    · refine lv_tableIn (tgt := 108) hx hb d_P_isMet_67 (by rw [c_16]; decide) (by rw [c_16]; decide) (by rw [c_16]; rfl) (by decide) ?_
      refine lv_iload hx hb d_P_isMet_108 (lv_at hl 5 rfl) ?_
      refine lv_istore (lv' := [(6, .int x_7), (5, .int x_10), (0, .ref (h 0)), (1, .int p0), (2, .int x_1), (3, .int x_4), (4, .int x_7)]) hx hb d_P_isMet_110 hl (by decide) rfl (fun ls hl => ?_)
      refine lv_goto (tgt := 193) hx hb d_P_isMet_112 (by decide) ?_
      exact J_14 x_7 _ _ _ ⟨by simp only [if_pos c_16], hP, hD, hS, (lv_sub hl [2, 3, 4, 5, 6, 1, 0] rfl)⟩
    by_cases c_17 : (p0 &&& (7 : Int32)) = (2 : Int32)
    · refine lv_tableIn (tgt := 115) hx hb d_P_isMet_67 (by rw [c_17]; decide) (by rw [c_17]; decide) (by rw [c_17]; rfl) (by decide) ?_
      refine lv_iload hx hb d_P_isMet_115 (lv_at hl 5 rfl) ?_
      refine zcut (X := Int32) (G := fun v9 H locs ls => v9 = (if x_7 = (0 : Int32) then (if x_10 = x_4 then (0 : Int32) else (1 : Int32)) else (1 : Int32)) ∧ va_P D vwCl (wP h c st) H ∧ va_D A (wP h c st) ∧ va_S A s.heap H locs ∧ lv_has ls 7 [(0, .ref (h 0)), (1, .int p0), (2, .int x_1), (3, .int x_4), (4, .int x_7), (5, .int x_10)]) (fr := fun v9 ls => F0 m 131 ls [.int v9]) (fun J_19 => ?_) (fun v9 H locs ls hG => ?_)
      · refine lv_if_ne (tgt := 126) hx hb d_P_isMet_117 (by decide) (fun c_20 => ?_) (fun c_20 => ?_)
        · refine lv_iconst (v := (1 : Int32)) hx hb d_P_isMet_126 (by decide) ?_
          refine lv_goto (tgt := 131) hx hb d_P_isMet_127 (by decide) ?_
          exact J_19 (1 : Int32) _ _ _ ⟨by simp only [if_neg c_20], hP, hD, hS, (lv_sub hl [1, 2, 3, 4, 5, 0] rfl)⟩
        refine lv_iload hx hb d_P_isMet_120 (lv_at hl 0 rfl) ?_
        refine lv_iload_n hx hb d_P_isMet_122 rfl (lv_at hl 4 rfl) ?_
        refine lv_icmp_eq (tgt := 130) hx hb d_P_isMet_123 (by decide) (fun c_21 => ?_) (fun c_21 => ?_)
        · refine lv_iconst (v := (0 : Int32)) hx hb d_P_isMet_130 (by decide) ?_
          exact J_19 (0 : Int32) _ _ _ ⟨by simp only [if_pos c_20, if_pos c_21], hP, hD, hS, (lv_sub hl [1, 2, 3, 4, 5, 0] rfl)⟩
        refine lv_iconst (v := (1 : Int32)) hx hb d_P_isMet_126 (by decide) ?_
        refine lv_goto (tgt := 131) hx hb d_P_isMet_127 (by decide) ?_
        exact J_19 (1 : Int32) _ _ _ ⟨by simp only [if_pos c_20, if_neg c_21], hP, hD, hS, (lv_sub hl [1, 2, 3, 4, 5, 0] rfl)⟩
      obtain ⟨x_18, rfl⟩ : ∃ z, z = v9 := ⟨_, rfl⟩
      obtain ⟨ex_18, hP, hD, hS, hl⟩ := hG
      subst ex_18
      refine lv_istore (lv' := [(6, .int (if x_7 = (0 : Int32) then (if x_10 = x_4 then (0 : Int32) else (1 : Int32)) else (1 : Int32))), (0, .ref (h 0)), (1, .int p0), (2, .int x_1), (3, .int x_4), (4, .int x_7), (5, .int x_10)]) hx hb d_P_isMet_131 hl (by decide) rfl (fun ls hl => ?_)
      refine lv_goto (tgt := 193) hx hb d_P_isMet_133 (by decide) ?_
      exact J_14 (if x_7 = (0 : Int32) then (if x_10 = x_4 then (0 : Int32) else (1 : Int32)) else (1 : Int32)) _ _ _ ⟨by simp only [if_neg c_16, if_pos c_17], hP, hD, hS, (lv_sub hl [1, 2, 3, 4, 5, 6, 0] rfl)⟩
    by_cases c_22 : (p0 &&& (7 : Int32)) = (3 : Int32)
    · refine lv_tableIn (tgt := 136) hx hb d_P_isMet_67 (by rw [c_22]; decide) (by rw [c_22]; decide) (by rw [c_22]; rfl) (by decide) ?_
      refine lv_iload hx hb d_P_isMet_136 (lv_at hl 0 rfl) ?_
      refine lv_iload_n hx hb d_P_isMet_138 rfl (lv_at hl 4 rfl) ?_
      refine zcut (X := Int32) (G := fun v9 H locs ls => v9 = (if x_10 = x_4 then (0 : Int32) else (1 : Int32)) ∧ va_P D vwCl (wP h c st) H ∧ va_D A (wP h c st) ∧ va_S A s.heap H locs ∧ lv_has ls 7 [(0, .ref (h 0)), (1, .int p0), (2, .int x_1), (3, .int x_4), (4, .int x_7), (5, .int x_10)]) (fr := fun v9 ls => F0 m 147 ls [.int v9]) (fun J_24 => ?_) (fun v9 H locs ls hG => ?_)
      · refine lv_icmp_eq (tgt := 146) hx hb d_P_isMet_139 (by decide) (fun c_25 => ?_) (fun c_25 => ?_)
        · refine lv_iconst (v := (0 : Int32)) hx hb d_P_isMet_146 (by decide) ?_
          exact J_24 (0 : Int32) _ _ _ ⟨by simp only [if_pos c_25], hP, hD, hS, (lv_sub hl [1, 2, 3, 4, 5, 0] rfl)⟩
        refine lv_iconst (v := (1 : Int32)) hx hb d_P_isMet_142 (by decide) ?_
        refine lv_goto (tgt := 147) hx hb d_P_isMet_143 (by decide) ?_
        exact J_24 (1 : Int32) _ _ _ ⟨by simp only [if_neg c_25], hP, hD, hS, (lv_sub hl [1, 2, 3, 4, 5, 0] rfl)⟩
      obtain ⟨x_23, rfl⟩ : ∃ z, z = v9 := ⟨_, rfl⟩
      obtain ⟨ex_23, hP, hD, hS, hl⟩ := hG
      subst ex_23
      refine lv_istore (lv' := [(6, .int (if x_10 = x_4 then (0 : Int32) else (1 : Int32))), (0, .ref (h 0)), (1, .int p0), (2, .int x_1), (3, .int x_4), (4, .int x_7), (5, .int x_10)]) hx hb d_P_isMet_147 hl (by decide) rfl (fun ls hl => ?_)
      refine lv_goto (tgt := 193) hx hb d_P_isMet_149 (by decide) ?_
      exact J_14 (if x_10 = x_4 then (0 : Int32) else (1 : Int32)) _ _ _ ⟨by simp only [if_neg c_16, if_neg c_17, if_pos c_22], hP, hD, hS, (lv_sub hl [1, 2, 3, 4, 5, 6, 0] rfl)⟩
    by_cases c_26 : (p0 &&& (7 : Int32)) = (4 : Int32)
    · refine lv_tableIn (tgt := 152) hx hb d_P_isMet_67 (by rw [c_26]; decide) (by rw [c_26]; decide) (by rw [c_26]; rfl) (by decide) ?_
      refine lv_iload_n hx hb d_P_isMet_152 rfl (lv_at hl 3 rfl) ?_
      refine zcut (X := Int32) (G := fun v9 H locs ls => v9 = (if x_1 = (0 : Int32) then (if x_7 = (0 : Int32) then (0 : Int32) else (1 : Int32)) else (1 : Int32)) ∧ va_P D vwCl (wP h c st) H ∧ va_D A (wP h c st) ∧ va_S A s.heap H locs ∧ lv_has ls 7 [(0, .ref (h 0)), (1, .int p0), (2, .int x_1), (3, .int x_4), (4, .int x_7), (5, .int x_10)]) (fr := fun v9 ls => F0 m 166 ls [.int v9]) (fun J_28 => ?_) (fun v9 H locs ls hG => ?_)
      · refine lv_if_ne (tgt := 161) hx hb d_P_isMet_153 (by decide) (fun c_29 => ?_) (fun c_29 => ?_)
        · refine lv_iconst (v := (1 : Int32)) hx hb d_P_isMet_161 (by decide) ?_
          refine lv_goto (tgt := 166) hx hb d_P_isMet_162 (by decide) ?_
          exact J_28 (1 : Int32) _ _ _ ⟨by simp only [if_neg c_29], hP, hD, hS, (lv_sub hl [1, 2, 3, 4, 5, 0] rfl)⟩
        refine lv_iload hx hb d_P_isMet_156 (lv_at hl 5 rfl) ?_
        refine lv_if_eq (tgt := 165) hx hb d_P_isMet_158 (by decide) (fun c_30 => ?_) (fun c_30 => ?_)
        · refine lv_iconst (v := (0 : Int32)) hx hb d_P_isMet_165 (by decide) ?_
          exact J_28 (0 : Int32) _ _ _ ⟨by simp only [if_pos c_29, if_pos c_30], hP, hD, hS, (lv_sub hl [1, 2, 3, 4, 5, 0] rfl)⟩
        refine lv_iconst (v := (1 : Int32)) hx hb d_P_isMet_161 (by decide) ?_
        refine lv_goto (tgt := 166) hx hb d_P_isMet_162 (by decide) ?_
        exact J_28 (1 : Int32) _ _ _ ⟨by simp only [if_pos c_29, if_neg c_30], hP, hD, hS, (lv_sub hl [1, 2, 3, 4, 5, 0] rfl)⟩
      obtain ⟨x_27, rfl⟩ : ∃ z, z = v9 := ⟨_, rfl⟩
      obtain ⟨ex_27, hP, hD, hS, hl⟩ := hG
      subst ex_27
      refine lv_istore (lv' := [(6, .int (if x_1 = (0 : Int32) then (if x_7 = (0 : Int32) then (0 : Int32) else (1 : Int32)) else (1 : Int32))), (0, .ref (h 0)), (1, .int p0), (2, .int x_1), (3, .int x_4), (4, .int x_7), (5, .int x_10)]) hx hb d_P_isMet_166 hl (by decide) rfl (fun ls hl => ?_)
      refine lv_goto (tgt := 193) hx hb d_P_isMet_168 (by decide) ?_
      exact J_14 (if x_1 = (0 : Int32) then (if x_7 = (0 : Int32) then (0 : Int32) else (1 : Int32)) else (1 : Int32)) _ _ _ ⟨by simp only [if_neg c_16, if_neg c_17, if_neg c_22, if_pos c_26], hP, hD, hS, (lv_sub hl [1, 2, 3, 4, 5, 6, 0] rfl)⟩
    by_cases c_31 : (p0 &&& (7 : Int32)) = (5 : Int32)
    · refine lv_tableIn (tgt := 171) hx hb d_P_isMet_67 (by rw [c_31]; decide) (by rw [c_31]; decide) (by rw [c_31]; rfl) (by decide) ?_
      refine lv_iload_n hx hb d_P_isMet_171 rfl (lv_at hl 3 rfl) ?_
      refine lv_istore (lv' := [(6, .int x_1), (5, .int x_10), (0, .ref (h 0)), (1, .int p0), (2, .int x_1), (3, .int x_4), (4, .int x_7)]) hx hb d_P_isMet_172 hl (by decide) rfl (fun ls hl => ?_)
      refine lv_goto (tgt := 193) hx hb d_P_isMet_174 (by decide) ?_
      exact J_14 x_1 _ _ _ ⟨by simp only [if_neg c_16, if_neg c_17, if_neg c_22, if_neg c_26, if_pos c_31], hP, hD, hS, (lv_sub hl [2, 3, 4, 5, 6, 1, 0] rfl)⟩
    by_cases c_32 : (p0 &&& (7 : Int32)) = (6 : Int32)
    · refine lv_tableIn (tgt := 177) hx hb d_P_isMet_67 (by rw [c_32]; decide) (by rw [c_32]; decide) (by rw [c_32]; rfl) (by decide) ?_
      refine lv_iload hx hb d_P_isMet_177 (lv_at hl 0 rfl) ?_
      refine lv_istore (lv' := [(6, .int x_10), (5, .int x_10), (0, .ref (h 0)), (1, .int p0), (2, .int x_1), (3, .int x_4), (4, .int x_7)]) hx hb d_P_isMet_179 hl (by decide) rfl (fun ls hl => ?_)
      refine lv_goto (tgt := 193) hx hb d_P_isMet_181 (by decide) ?_
      exact J_14 x_10 _ _ _ ⟨by simp only [if_neg c_16, if_neg c_17, if_neg c_22, if_neg c_26, if_neg c_31, if_pos c_32], hP, hD, hS, (lv_sub hl [2, 3, 4, 5, 6, 1, 0] rfl)⟩
    by_cases c_33 : (p0 &&& (7 : Int32)) = (7 : Int32)
    · refine lv_tableIn (tgt := 184) hx hb d_P_isMet_67 (by rw [c_33]; decide) (by rw [c_33]; decide) (by rw [c_33]; rfl) (by decide) ?_
      refine lv_iload_n hx hb d_P_isMet_184 rfl (lv_at hl 4 rfl) ?_
      refine lv_istore (lv' := [(6, .int x_4), (5, .int x_10), (0, .ref (h 0)), (1, .int p0), (2, .int x_1), (3, .int x_4), (4, .int x_7)]) hx hb d_P_isMet_185 hl (by decide) rfl (fun ls hl => ?_)
      refine lv_goto (tgt := 193) hx hb d_P_isMet_187 (by decide) ?_
      exact J_14 x_4 _ _ _ ⟨by simp only [if_neg c_16, if_neg c_17, if_neg c_22, if_neg c_26, if_neg c_31, if_neg c_32, if_pos c_33], hP, hD, hS, (lv_sub hl [2, 3, 4, 5, 6, 1, 0] rfl)⟩
    refine lv_tableOut (tgt := 190) hx hb d_P_isMet_67 (by have := lv_neT c_16 (a := 1) (by decide); have := lv_neT c_17 (a := 2) (by decide); have := lv_neT c_22 (a := 3) (by decide); have := lv_neT c_26 (a := 4) (by decide); have := lv_neT c_31 (a := 5) (by decide); have := lv_neT c_32 (a := 6) (by decide); have := lv_neT c_33 (a := 7) (by decide); omega) (by decide) ?_
    refine lv_iconst (v := (0 : Int32)) hx hb d_P_isMet_190 (by decide) ?_
    refine lv_istore (lv' := [(6, .int (0 : Int32)), (5, .int x_10), (0, .ref (h 0)), (1, .int p0), (2, .int x_1), (3, .int x_4), (4, .int x_7)]) hx hb d_P_isMet_191 hl (by decide) rfl (fun ls hl => ?_)
    exact J_14 (0 : Int32) _ _ _ ⟨by simp only [if_neg c_16, if_neg c_17, if_neg c_22, if_neg c_26, if_neg c_31, if_neg c_32, if_neg c_33], hP, hD, hS, (lv_sub hl [2, 3, 4, 5, 6, 1, 0] rfl)⟩
  obtain ⟨x_13, rfl⟩ : ∃ z, z = v9 := ⟨_, rfl⟩
  obtain ⟨ex_13, hP, hD, hS, hl⟩ := hG
  have zbx_13 : zB x_13 := by rw [ex_13]; repeat' first | exact zB0 | exact zB1 | assumption | apply zB_ite
  refine lv_iload_n hx hb d_P_isMet_193 rfl (lv_at hl 1 rfl) ?_
  refine lv_bipush (v := (8 : Int32)) hx hb d_P_isMet_194 (by decide) ?_
  refine zcut (X := Int32) (G := fun v9 H locs ls => v9 = (if p0 < (8 : Int32) then x_13 else (if x_13 = (0 : Int32) then (1 : Int32) else (0 : Int32))) ∧ va_P D vwCl (wP h c st) H ∧ va_D A (wP h c st) ∧ va_S A s.heap H locs ∧ lv_has ls 7 [(0, .ref (h 0)), (1, .int p0), (2, .int x_1), (3, .int x_4), (4, .int x_7), (5, .int x_10), (6, .int x_13)]) (fr := fun v9 ls => F0 m 214 ls [.int v9]) (fun J_35 => ?_) (fun v9 H locs ls hG => ?_)
  · refine lv_icmp_lt (tgt := 212) hx hb d_P_isMet_196 (by decide) (fun c_36 => ?_) (fun c_36 => ?_)
    · refine lv_iload hx hb d_P_isMet_212 (lv_at hl 6 rfl) ?_
      exact J_35 x_13 _ _ _ ⟨by simp only [if_pos c_36], hP, hD, hS, hl⟩
    refine lv_iload hx hb d_P_isMet_199 (lv_at hl 6 rfl) ?_
    refine lv_if_ne (tgt := 208) hx hb d_P_isMet_201 (by decide) (fun c_37 => ?_) (fun c_37 => ?_)
    · refine lv_iconst (v := (0 : Int32)) hx hb d_P_isMet_208 (by decide) ?_
      refine lv_goto (tgt := 214) hx hb d_P_isMet_209 (by decide) ?_
      exact J_35 (0 : Int32) _ _ _ ⟨by simp only [if_neg c_36, if_neg c_37], hP, hD, hS, hl⟩
    refine lv_iconst (v := (1 : Int32)) hx hb d_P_isMet_204 (by decide) ?_
    refine lv_goto (tgt := 214) hx hb d_P_isMet_205 (by decide) ?_
    exact J_35 (1 : Int32) _ _ _ ⟨by simp only [if_neg c_36, if_pos c_37], hP, hD, hS, hl⟩
  obtain ⟨x_34, rfl⟩ : ∃ z, z = v9 := ⟨_, rfl⟩
  obtain ⟨ex_34, hP, hD, hS, hl⟩ := hG
  have zbx_34 : zB x_34 := by rw [ex_34]; repeat' first | exact zB0 | exact zB1 | assumption | apply zB_ite
  exact zl_z (u := ()) hx hb hr (zbx_34).n hlocks hS hP hD (by subst ex_1; subst ex_4; subst ex_7; subst ex_10; subst ex_13; subst ex_34; simp only [f_isMet]) d_P_isMet_214
theorem d_P_branch_0 : decode c_P_branch 0 = .ok (.iload_n 1, 1) := by decide +kernel
theorem d_P_branch_1 : decode c_P_branch 1 = .ok (.invokestatic 133, 3) := by decide +kernel
theorem d_P_branch_4 : decode c_P_branch 4 = .ok (.istore_n 2, 1) := by decide +kernel
theorem d_P_branch_5 : decode c_P_branch 5 = .ok (.aload_n 0, 1) := by decide +kernel
theorem d_P_branch_6 : decode c_P_branch 6 = .ok (.iload_n 2, 1) := by decide +kernel
theorem d_P_branch_7 : decode c_P_branch 7 = .ok (.invokevirtual 136, 3) := by decide +kernel
theorem d_P_branch_10 : decode c_P_branch 10 = .ok (.istore_n 3, 1) := by decide +kernel
theorem d_P_branch_11 : decode c_P_branch 11 = .ok (.iload_n 3, 1) := by decide +kernel
theorem d_P_branch_12 : decode c_P_branch 12 = .ok (.ifCond .eq 19, 3) := by decide +kernel
theorem d_P_branch_15 : decode c_P_branch 15 = .ok (.aload_n 0, 1) := by decide +kernel
theorem d_P_branch_16 : decode c_P_branch 16 = .ok (.aload_n 0, 1) := by decide +kernel
theorem d_P_branch_17 : decode c_P_branch 17 = .ok (.getfield 44, 3) := by decide +kernel
theorem d_P_branch_20 : decode c_P_branch 20 = .ok (.iload_n 1, 1) := by decide +kernel
theorem d_P_branch_21 : decode c_P_branch 21 = .ok (.bipush 10, 2) := by decide +kernel
theorem d_P_branch_23 : decode c_P_branch 23 = .ok (.ishl, 1) := by decide +kernel
theorem d_P_branch_24 : decode c_P_branch 24 = .ok (.bipush 8, 2) := by decide +kernel
theorem d_P_branch_26 : decode c_P_branch 26 = .ok (.ishr, 1) := by decide +kernel
theorem d_P_branch_27 : decode c_P_branch 27 = .ok (.iadd, 1) := by decide +kernel
theorem d_P_branch_28 : decode c_P_branch 28 = .ok (.putfield 88, 3) := by decide +kernel
theorem d_P_branch_31 : decode c_P_branch 31 = .ok (.iload_n 1, 1) := by decide +kernel
theorem d_P_branch_32 : decode c_P_branch 32 = .ok (.bipush 29, 2) := by decide +kernel
theorem d_P_branch_34 : decode c_P_branch 34 = .ok (.iushr, 1) := by decide +kernel
theorem d_P_branch_35 : decode c_P_branch 35 = .ok (.iconst 1, 1) := by decide +kernel
theorem d_P_branch_36 : decode c_P_branch 36 = .ok (.iand, 1) := by decide +kernel
theorem d_P_branch_37 : decode c_P_branch 37 = .ok (.iconst 1, 1) := by decide +kernel
theorem d_P_branch_38 : decode c_P_branch 38 = .ok (.if_icmp .ne 7, 3) := by decide +kernel
theorem d_P_branch_41 : decode c_P_branch 41 = .ok (.iconst 1, 1) := by decide +kernel
theorem d_P_branch_42 : decode c_P_branch 42 = .ok (.goto 4, 3) := by decide +kernel
theorem d_P_branch_45 : decode c_P_branch 45 = .ok (.iconst 0, 1) := by decide +kernel
theorem d_P_branch_46 : decode c_P_branch 46 = .ok (.istore 4, 2) := by decide +kernel
theorem d_P_branch_48 : decode c_P_branch 48 = .ok (.aload_n 0, 1) := by decide +kernel
theorem d_P_branch_49 : decode c_P_branch 49 = .ok (.iload 4, 2) := by decide +kernel
theorem d_P_branch_51 : decode c_P_branch 51 = .ok (.ifCond .eq 17, 3) := by decide +kernel
theorem d_P_branch_54 : decode c_P_branch 54 = .ok (.iload_n 3, 1) := by decide +kernel
theorem d_P_branch_55 : decode c_P_branch 55 = .ok (.ifCond .eq 9, 3) := by decide +kernel
theorem d_P_branch_58 : decode c_P_branch 58 = .ok (.iload_n 2, 1) := by decide +kernel
theorem d_P_branch_59 : decode c_P_branch 59 = .ok (.bipush 8, 2) := by decide +kernel
theorem d_P_branch_61 : decode c_P_branch 61 = .ok (.if_icmp .ne 7, 3) := by decide +kernel
theorem d_P_branch_64 : decode c_P_branch 64 = .ok (.iconst 1, 1) := by decide +kernel
theorem d_P_branch_65 : decode c_P_branch 65 = .ok (.goto 4, 3) := by decide +kernel
theorem d_P_branch_68 : decode c_P_branch 68 = .ok (.iconst 0, 1) := by decide +kernel
theorem d_P_branch_69 : decode c_P_branch 69 = .ok (.putfield 50, 3) := by decide +kernel
theorem d_P_branch_72 : decode c_P_branch 72 = .ok (.return_, 1) := by decide +kernel
theorem kd_P_branch : (y_P_branch).cls = "WindowMachine$Processor" ∧ (y_P_branch).cls ≠ "java/lang/invoke/MethodHandle" ∧ (y_P_branch).cls ≠ "java/lang/invoke/VarHandle" ∧ (parseMethodDescriptor (y_P_branch).desc).map (fun d => d.parameters.length) = some 1 := by decide +kernel
def f_branch (st : SP) (p0 : Int32) : SP := (let r_2 := f_isMet st (f_conditionOf p0); (let u_3 := (if r_2 = (0 : Int32) then st else (upd st.1 10 ((st.1 8) + ((p0 <<< ((10 : Int32) &&& 31)) >>> ((8 : Int32) &&& 31))), st.2.1, st.2.2.1, st.2.2.2)); (let x_6 := (if ((zushr p0 (29 : Int32)) &&& (1 : Int32)) = (1 : Int32) then (1 : Int32) else (0 : Int32)); (let x_9 := (if x_6 = (0 : Int32) then (0 : Int32) else (if r_2 = (0 : Int32) then (1 : Int32) else (if (f_conditionOf p0) = (8 : Int32) then (1 : Int32) else (0 : Int32)))); (upd u_3.1 11 x_9, u_3.2.1, u_3.2.2.1, u_3.2.2.2)))))
set_option maxHeartbeats 4000000 in
set_option maxRecDepth 100000 in
theorem mt_P_branch (l : Launch) (D : va_G) (h : Nat → Nat) (c : Nat → ClassId) (sz : Nat) (st : SP) (p0 : Int32) : Met l y_P_branch w_P_branch ({ frames := 1, cells := 0, slots := 0, locals := 26 }) (va_Pc [.ref (h 0), .int p0] (zw_pre D vwCl [(c 0, .int), (c 1, .int)] sz (wP h c st) (fun _ => True))) (va_Qv (fun (u : SP) => u = f_branch st p0) (fun u t => zw_at D vwCl (va_A (wP h c st) sz) ((fun (u : SP) => wP h c u) u) t) (va_A (wP h c st) sz)) 0 0 (va_A (wP h c st) sz) := by
  refine zm (Qf := fun A => va_Qv (fun (u : SP) => u = f_branch st p0) (fun u t => zw_at D vwCl A ((fun (u : SP) => wP h c u) u) t) A) (Zf := fun _ _ => True) (cc := c_P_branch) (nL := 5) (ret := none) (by decide) rfl (Nat.le_of_ble_eq_true rfl) ?_
  intro p e s m below meth c9 A H locs ls hx hb hml hown hts hr hlocks hA hK hP hD hS hZ hl
  have hl : lv_has ls 5 [(0, .ref (h 0)), (1, .int p0)] := hl
  have ht : ∀ w9 ∈ zT, w9.before _ s = true := fun w9 h9 => hts w9 (List.mem_cons_of_mem _ h9)
  refine lv_iload_n hx hb d_P_branch_0 rfl (lv_at hl 1 rfl) ?_
  refine zc_i (w2 := fun _ => wP h c st) (va_runS (As := [.int p0]) (rest := []) ⟨hx, hb, hml, hown, ht⟩ (mt_P_conditionOf l D H.size p0) (cwS 1 ht (zgS zw_539 zw_540 zw_4 zw_541) rfl rfl rfl kd_P_conditionOf ⟨Nat.le_of_ble_eq_true rfl, Nat.le_of_ble_eq_true rfl⟩) ⟨zw_blind zw_tt, zw_go (hP.sub (ws' := []) [] rfl) (hD.sub (ws' := []) [] (by decide) rfl) (hK.sub (tys' := []) [] rfl) (fun _ _ _ => trivial)⟩ rfl rfl hl.1 rfl (lv_room (Nat.le_of_ble_eq_true rfl)) d_P_branch_1 ⟨Nat.le_of_ble_eq_true rfl, Nat.le_of_ble_eq_true rfl⟩) hP hD hS hA [] [0, 1, 2, 3, 4, 5] [0, 1, 2, 3, 4, 5] rfl rfl (by decide) (by decide) (by decide) (fun _ => rfl) (fun r_1 _ H locs hw hP hD hS => ?_)
  subst hw
  refine lv_istore_n (lv' := [(2, .int (f_conditionOf p0)), (0, .ref (h 0)), (1, .int p0)]) hx hb d_P_branch_4 rfl hl (by decide) rfl (fun ls hl => ?_)
  refine lv_aload_n hx hb d_P_branch_5 rfl (lv_at hl 1 rfl) ?_
  refine lv_iload_n hx hb d_P_branch_6 rfl (lv_at hl 0 rfl) ?_
  refine zc_i (w2 := fun _ => wP h c st) (va_runV (As := [.int (f_conditionOf p0)]) (rest := []) ⟨hx, hb, hml, hown, ht⟩ (mt_P_isMet l D h c H.size st (f_conditionOf p0)) (cwV 1 ht (zgV zw_542 zw_544 zs_25 zw_4 zw_545) rfl rfl rfl kd_P_isMet ⟨Nat.le_of_ble_eq_true rfl, Nat.le_of_ble_eq_true rfl⟩) ⟨zw_blind zw_tt, va_recv (hK.sub (tys' := [(c 0, .int), (c 1, .int)]) [0, 1] rfl) (hP.sub (ws' := wP h c st) [0, 1, 2, 3, 4, 5] rfl) (ci := 2) (q0 := 0) rfl rfl, zw_go (hP.sub (ws' := wP h c st) [0, 1, 2, 3, 4, 5] rfl) (hD.sub (ws' := wP h c st) [0, 1, 2, 3, 4, 5] (by decide) rfl) (hK.sub (tys' := [(c 0, .int), (c 1, .int)]) [0, 1] rfl) (fun _ _ _ => trivial)⟩ rfl rfl hl.1 rfl (lv_room (Nat.le_of_ble_eq_true rfl)) d_P_branch_7 ⟨Nat.le_of_ble_eq_true rfl, Nat.le_of_ble_eq_true rfl⟩) hP hD hS hA [0, 1, 2, 3, 4, 5] [] [0, 1, 2, 3, 4, 5] rfl rfl (by decide) (by decide) (by decide) (fun _ => rfl) (fun r_2 _ H locs hw hP hD hS => ?_)
  have er_2 := hw
  refine lv_istore_n (lv' := [(3, .int r_2), (2, .int (f_conditionOf p0)), (0, .ref (h 0)), (1, .int p0)]) hx hb d_P_branch_10 rfl hl (by decide) rfl (fun ls hl => ?_)
  refine lv_iload_n hx hb d_P_branch_11 rfl (lv_at hl 0 rfl) ?_
  refine zcut (X := SP) (G := fun v9 H locs ls => v9 = (if r_2 = (0 : Int32) then st else (upd st.1 10 ((st.1 8) + ((p0 <<< ((10 : Int32) &&& 31)) >>> ((8 : Int32) &&& 31))), st.2.1, st.2.2.1, st.2.2.2)) ∧ va_P D vwCl (wP h c v9) H ∧ va_D A (wP h c v9) ∧ va_S A s.heap H locs ∧ lv_has ls 5 [(0, .ref (h 0)), (1, .int p0), (2, .int (f_conditionOf p0)), (3, .int r_2)]) (fr := fun v9 ls => F0 m 31 ls []) (fun J_4 => ?_) (fun v9 H locs ls hG => ?_)
  · refine lv_if_eq (tgt := 31) hx hb d_P_branch_12 (by decide) (fun c_5 => ?_) (fun c_5 => ?_)
    · exact J_4 st _ _ _ ⟨by simp only [if_pos c_5], hP, hD, hS, (lv_sub hl [2, 3, 1, 0] rfl)⟩
    refine lv_aload_n hx hb d_P_branch_15 rfl (lv_at hl 2 rfl) ?_
    refine lv_aload_n hx hb d_P_branch_16 rfl (lv_at hl 2 rfl) ?_
    refine va_get (D := D) (ci := 2) (v := .int (st.1 8)) (C := "WindowMachine$Processor") (T := T_P) (N := 18) hx hb ht zi_P hown hK hP 0 rfl rfl 11 (by decide) (ht _ zw_129) (fun _ h9 => h9) rfl d_P_branch_17 ?_
    refine lv_iload_n hx hb d_P_branch_20 rfl (lv_at hl 3 rfl) ?_
    refine lv_bipush (v := (10 : Int32)) hx hb d_P_branch_21 (by decide) ?_
    refine lv_ishl hx hb d_P_branch_23 ?_
    refine lv_bipush (v := (8 : Int32)) hx hb d_P_branch_24 (by decide) ?_
    refine lv_ishr hx hb d_P_branch_26 ?_
    refine lv_iadd hx hb d_P_branch_27 ?_
    refine va_put (D := D) (ci := 2) (v := .int ((st.1 8) + ((p0 <<< ((10 : Int32) &&& 31)) >>> ((8 : Int32) &&& 31)))) (ty := .int) (C := "WindowMachine$Processor") (T := T_P) (N := 18) hx hb ht zi_P ty_P tyok_P nm_P hown hK hP hD hS 0 rfl rfl 13 (by decide) (ht _ zw_131) (fun _ h9 => h9) rfl (by decide +kernel) rfl rfl (Nat.le_of_ble_eq_true rfl) d_P_branch_28 (fun H locs hP hD hS => ?_)
    have hP : va_P D vwCl (wP h c (upd st.1 10 ((st.1 8) + ((p0 <<< ((10 : Int32) &&& 31)) >>> ((8 : Int32) &&& 31))), st.2.1, st.2.2.1, st.2.2.2)) H := hP
    have hD : va_D A (wP h c (upd st.1 10 ((st.1 8) + ((p0 <<< ((10 : Int32) &&& 31)) >>> ((8 : Int32) &&& 31))), st.2.1, st.2.2.1, st.2.2.2)) := hD
    exact J_4 (upd st.1 10 ((st.1 8) + ((p0 <<< ((10 : Int32) &&& 31)) >>> ((8 : Int32) &&& 31))), st.2.1, st.2.2.1, st.2.2.2) _ _ _ ⟨by simp only [if_neg c_5], hP, hD, hS, (lv_sub hl [2, 3, 1, 0] rfl)⟩
  obtain ⟨u_3, rfl⟩ : ∃ z, z = v9 := ⟨_, rfl⟩
  obtain ⟨eu_3, hP, hD, hS, hl⟩ := hG
  refine lv_iload_n hx hb d_P_branch_31 rfl (lv_at hl 1 rfl) ?_
  refine lv_bipush (v := (29 : Int32)) hx hb d_P_branch_32 (by decide) ?_
  refine lv_iushr (v := zushr p0 (29 : Int32)) hx hb d_P_branch_34 rfl ?_
  refine lv_iconst (v := (1 : Int32)) hx hb d_P_branch_35 (by decide) ?_
  refine lv_iand hx hb d_P_branch_36 ?_
  refine lv_iconst (v := (1 : Int32)) hx hb d_P_branch_37 (by decide) ?_
  refine zcut (X := Int32) (G := fun v9 H locs ls => v9 = (if ((zushr p0 (29 : Int32)) &&& (1 : Int32)) = (1 : Int32) then (1 : Int32) else (0 : Int32)) ∧ va_P D vwCl (wP h c u_3) H ∧ va_D A (wP h c u_3) ∧ va_S A s.heap H locs ∧ lv_has ls 5 [(0, .ref (h 0)), (1, .int p0), (2, .int (f_conditionOf p0)), (3, .int r_2)]) (fr := fun v9 ls => F0 m 46 ls [.int v9]) (fun J_7 => ?_) (fun v9 H locs ls hG => ?_)
  · refine lv_icmp_ne (tgt := 45) hx hb d_P_branch_38 (by decide) (fun c_8 => ?_) (fun c_8 => ?_)
    · refine lv_iconst (v := (0 : Int32)) hx hb d_P_branch_45 (by decide) ?_
      exact J_7 (0 : Int32) _ _ _ ⟨by simp only [if_neg c_8], hP, hD, hS, hl⟩
    refine lv_iconst (v := (1 : Int32)) hx hb d_P_branch_41 (by decide) ?_
    refine lv_goto (tgt := 46) hx hb d_P_branch_42 (by decide) ?_
    exact J_7 (1 : Int32) _ _ _ ⟨by simp only [if_pos c_8], hP, hD, hS, hl⟩
  obtain ⟨x_6, rfl⟩ : ∃ z, z = v9 := ⟨_, rfl⟩
  obtain ⟨ex_6, hP, hD, hS, hl⟩ := hG
  have zbx_6 : zB x_6 := by rw [ex_6]; repeat' first | exact zB0 | exact zB1 | assumption | apply zB_ite
  refine lv_istore (lv' := [(4, .int x_6), (0, .ref (h 0)), (1, .int p0), (2, .int (f_conditionOf p0)), (3, .int r_2)]) hx hb d_P_branch_46 hl (by decide) rfl (fun ls hl => ?_)
  refine lv_aload_n hx hb d_P_branch_48 rfl (lv_at hl 1 rfl) ?_
  refine lv_iload hx hb d_P_branch_49 (lv_at hl 0 rfl) ?_
  refine zcut (X := Int32) (G := fun v9 H locs ls => v9 = (if x_6 = (0 : Int32) then (0 : Int32) else (if r_2 = (0 : Int32) then (1 : Int32) else (if (f_conditionOf p0) = (8 : Int32) then (1 : Int32) else (0 : Int32)))) ∧ va_P D vwCl (wP h c u_3) H ∧ va_D A (wP h c u_3) ∧ va_S A s.heap H locs ∧ lv_has ls 5 [(0, .ref (h 0)), (1, .int p0), (2, .int (f_conditionOf p0)), (3, .int r_2), (4, .int x_6)]) (fr := fun v9 ls => F0 m 69 ls [.int v9, .ref (h 0)]) (fun J_10 => ?_) (fun v9 H locs ls hG => ?_)
  · refine lv_if_eq (tgt := 68) hx hb d_P_branch_51 (by decide) (fun c_11 => ?_) (fun c_11 => ?_)
    · refine lv_iconst (v := (0 : Int32)) hx hb d_P_branch_68 (by decide) ?_
      exact J_10 (0 : Int32) _ _ _ ⟨by simp only [if_pos c_11], hP, hD, hS, (lv_sub hl [1, 2, 3, 4, 0] rfl)⟩
    refine lv_iload_n hx hb d_P_branch_54 rfl (lv_at hl 4 rfl) ?_
    refine lv_if_eq (tgt := 64) hx hb d_P_branch_55 (by decide) (fun c_12 => ?_) (fun c_12 => ?_)
    · refine lv_iconst (v := (1 : Int32)) hx hb d_P_branch_64 (by decide) ?_
      refine lv_goto (tgt := 69) hx hb d_P_branch_65 (by decide) ?_
      exact J_10 (1 : Int32) _ _ _ ⟨by simp only [if_neg c_11, if_pos c_12], hP, hD, hS, (lv_sub hl [1, 2, 3, 4, 0] rfl)⟩
    refine lv_iload_n hx hb d_P_branch_58 rfl (lv_at hl 3 rfl) ?_
    refine lv_bipush (v := (8 : Int32)) hx hb d_P_branch_59 (by decide) ?_
    refine lv_icmp_ne (tgt := 68) hx hb d_P_branch_61 (by decide) (fun c_13 => ?_) (fun c_13 => ?_)
    · refine lv_iconst (v := (0 : Int32)) hx hb d_P_branch_68 (by decide) ?_
      exact J_10 (0 : Int32) _ _ _ ⟨by simp only [if_neg c_11, if_neg c_12, if_neg c_13], hP, hD, hS, (lv_sub hl [1, 2, 3, 4, 0] rfl)⟩
    refine lv_iconst (v := (1 : Int32)) hx hb d_P_branch_64 (by decide) ?_
    refine lv_goto (tgt := 69) hx hb d_P_branch_65 (by decide) ?_
    exact J_10 (1 : Int32) _ _ _ ⟨by simp only [if_neg c_11, if_neg c_12, if_pos c_13], hP, hD, hS, (lv_sub hl [1, 2, 3, 4, 0] rfl)⟩
  obtain ⟨x_9, rfl⟩ : ∃ z, z = v9 := ⟨_, rfl⟩
  obtain ⟨ex_9, hP, hD, hS, hl⟩ := hG
  have zbx_9 : zB x_9 := by rw [ex_9]; repeat' first | exact zB0 | exact zB1 | assumption | apply zB_ite
  refine va_put (D := D) (ci := 2) (v := .int x_9) (ty := .boolean) (C := "WindowMachine$Processor") (T := T_P) (N := 18) hx hb ht zi_P ty_P tyok_P nm_P hown hK hP hD hS 0 rfl rfl 14 (by decide) (ht _ zw_132) (fun _ h9 => h9) rfl (by decide +kernel) (zbx_9).n (zbx_9).f (Nat.le_of_ble_eq_true rfl) d_P_branch_69 (fun H locs hP hD hS => ?_)
  have hP : va_P D vwCl (wP h c (upd u_3.1 11 x_9, u_3.2.1, u_3.2.2.1, u_3.2.2.2)) H := hP
  have hD : va_D A (wP h c (upd u_3.1 11 x_9, u_3.2.1, u_3.2.2.1, u_3.2.2.2)) := hD
  exact zl_v (u := (upd u_3.1 11 x_9, u_3.2.1, u_3.2.2.1, u_3.2.2.2)) hx hb hr hlocks hS hP hD (by subst er_2; subst eu_3; subst ex_6; subst ex_9; simp only [f_branch]) d_P_branch_72
theorem d_P_sethiOrBranch_0 : decode c_P_sethiOrBranch 0 = .ok (.iload_n 1, 1) := by decide +kernel
theorem d_P_sethiOrBranch_1 : decode c_P_sethiOrBranch 1 = .ok (.bipush 22, 2) := by decide +kernel
theorem d_P_sethiOrBranch_3 : decode c_P_sethiOrBranch 3 = .ok (.iushr, 1) := by decide +kernel
theorem d_P_sethiOrBranch_4 : decode c_P_sethiOrBranch 4 = .ok (.bipush 7, 2) := by decide +kernel
theorem d_P_sethiOrBranch_6 : decode c_P_sethiOrBranch 6 = .ok (.iand, 1) := by decide +kernel
theorem d_P_sethiOrBranch_7 : decode c_P_sethiOrBranch 7 = .ok (.lookupswitch 42 #[(2, 25), (4, 32)], 25) := by decide +kernel
theorem d_P_sethiOrBranch_32 : decode c_P_sethiOrBranch 32 = .ok (.aload_n 0, 1) := by decide +kernel
theorem d_P_sethiOrBranch_33 : decode c_P_sethiOrBranch 33 = .ok (.iload_n 1, 1) := by decide +kernel
theorem d_P_sethiOrBranch_34 : decode c_P_sethiOrBranch 34 = .ok (.invokevirtual 127, 3) := by decide +kernel
theorem d_P_sethiOrBranch_37 : decode c_P_sethiOrBranch 37 = .ok (.iconst (-1), 1) := by decide +kernel
theorem d_P_sethiOrBranch_38 : decode c_P_sethiOrBranch 38 = .ok (.ireturn, 1) := by decide +kernel
theorem d_P_sethiOrBranch_39 : decode c_P_sethiOrBranch 39 = .ok (.aload_n 0, 1) := by decide +kernel
theorem d_P_sethiOrBranch_40 : decode c_P_sethiOrBranch 40 = .ok (.iload_n 1, 1) := by decide +kernel
theorem d_P_sethiOrBranch_41 : decode c_P_sethiOrBranch 41 = .ok (.iload_n 1, 1) := by decide +kernel
theorem d_P_sethiOrBranch_42 : decode c_P_sethiOrBranch 42 = .ok (.bipush 10, 2) := by decide +kernel
theorem d_P_sethiOrBranch_44 : decode c_P_sethiOrBranch 44 = .ok (.ishl, 1) := by decide +kernel
theorem d_P_sethiOrBranch_45 : decode c_P_sethiOrBranch 45 = .ok (.invokevirtual 130, 3) := by decide +kernel
theorem d_P_sethiOrBranch_48 : decode c_P_sethiOrBranch 48 = .ok (.ireturn, 1) := by decide +kernel
theorem d_P_sethiOrBranch_49 : decode c_P_sethiOrBranch 49 = .ok (.iconst 2, 1) := by decide +kernel
theorem d_P_sethiOrBranch_50 : decode c_P_sethiOrBranch 50 = .ok (.ireturn, 1) := by decide +kernel
theorem kd_P_sethiOrBranch : (y_P_sethiOrBranch).cls = "WindowMachine$Processor" ∧ (y_P_sethiOrBranch).cls ≠ "java/lang/invoke/MethodHandle" ∧ (y_P_sethiOrBranch).cls ≠ "java/lang/invoke/VarHandle" ∧ (parseMethodDescriptor (y_P_sethiOrBranch).desc).map (fun d => d.parameters.length) = some 1 := by decide +kernel
def f_sethiOrBranch (st : SP) (p0 : Int32) : Int32 × SP := (if ((zushr p0 (22 : Int32)) &&& (7 : Int32)) = (2 : Int32) then (let u_3 := f_branch st p0; ((-1 : Int32), u_3)) else (if ((zushr p0 (22 : Int32)) &&& (7 : Int32)) = (4 : Int32) then (let r_5 := (f_deliver st p0 (p0 <<< ((10 : Int32) &&& 31))).1; (let u_5 := (f_deliver st p0 (p0 <<< ((10 : Int32) &&& 31))).2; (r_5, u_5))) else ((2 : Int32), st)))
set_option maxHeartbeats 4000000 in
set_option maxRecDepth 100000 in
theorem mt_P_sethiOrBranch (l : Launch) (D : va_G) (h : Nat → Nat) (c : Nat → ClassId) (sz : Nat) (st : SP) (p0 : Int32) (hW : vp_in (st.1 0) 4) : Met l y_P_sethiOrBranch w_P_sethiOrBranch ({ frames := 3, cells := 0, slots := 0, locals := 66 }) (va_Pc [.ref (h 0), .int p0] (zw_pre D vwCl [(c 0, .int), (c 1, .int)] sz (wP h c st) (fun _ => True))) (va_Qi (fun r (u : SP) => r = (f_sethiOrBranch st p0).1 ∧ u = (f_sethiOrBranch st p0).2) (fun u t => zw_at D vwCl (va_A (wP h c st) sz) ((fun (u : SP) => wP h c u) u) t) (va_A (wP h c st) sz)) 0 0 (va_A (wP h c st) sz) := by
  refine zm (Qf := fun A => va_Qi (fun r (u : SP) => r = (f_sethiOrBranch st p0).1 ∧ u = (f_sethiOrBranch st p0).2) (fun u t => zw_at D vwCl A ((fun (u : SP) => wP h c u) u) t) A) (Zf := fun _ _ => True) (cc := c_P_sethiOrBranch) (nL := 2) (ret := (some .int)) (by decide) rfl (Nat.le_of_ble_eq_true rfl) ?_
  intro p e s m below meth c9 A H locs ls hx hb hml hown hts hr hlocks hA hK hP hD hS hZ hl
  have hl : lv_has ls 2 [(0, .ref (h 0)), (1, .int p0)] := hl
  have ht : ∀ w9 ∈ zT, w9.before _ s = true := fun w9 h9 => hts w9 (List.mem_cons_of_mem _ h9)
  refine lv_iload_n hx hb d_P_sethiOrBranch_0 rfl (lv_at hl 1 rfl) ?_
  refine lv_bipush (v := (22 : Int32)) hx hb d_P_sethiOrBranch_1 (by decide) ?_
  refine lv_iushr (v := zushr p0 (22 : Int32)) hx hb d_P_sethiOrBranch_3 rfl ?_
  refine lv_bipush (v := (7 : Int32)) hx hb d_P_sethiOrBranch_4 (by decide) ?_
  refine lv_iand hx hb d_P_sethiOrBranch_6 ?_
  by_cases c_2 : ((zushr p0 (22 : Int32)) &&& (7 : Int32)) = (2 : Int32)
  · refine lv_lookup (tgt := 32) (off := 25) hx hb d_P_sethiOrBranch_7 (by decide) (by rw [c_2]; first | done | rfl) (by decide) ?_
    refine lv_aload_n hx hb d_P_sethiOrBranch_32 rfl (lv_at hl 0 rfl) ?_
    refine lv_iload_n hx hb d_P_sethiOrBranch_33 rfl (lv_at hl 1 rfl) ?_
    refine zc_v (w2 := fun u9 => wP h c u9) (va_runV (As := [.int p0]) (rest := []) ⟨hx, hb, hml, hown, ht⟩ (mt_P_branch l D h c H.size st p0) (cwV 1 ht (zgV zw_535 zw_537 zs_24 zw_4 zw_538) rfl rfl rfl kd_P_branch ⟨Nat.le_of_ble_eq_true rfl, Nat.le_of_ble_eq_true rfl⟩) ⟨zw_blind zw_tt, va_recv (hK.sub (tys' := [(c 0, .int), (c 1, .int)]) [0, 1] rfl) (hP.sub (ws' := wP h c st) [0, 1, 2, 3, 4, 5] rfl) (ci := 2) (q0 := 0) rfl rfl, zw_go (hP.sub (ws' := wP h c st) [0, 1, 2, 3, 4, 5] rfl) (hD.sub (ws' := wP h c st) [0, 1, 2, 3, 4, 5] (by decide) rfl) (hK.sub (tys' := [(c 0, .int), (c 1, .int)]) [0, 1] rfl) (fun _ _ _ => trivial)⟩ rfl rfl hl.1 rfl (lv_room (Nat.le_of_ble_eq_true rfl)) d_P_sethiOrBranch_34 ⟨Nat.le_of_ble_eq_true rfl, Nat.le_of_ble_eq_true rfl⟩) hP hD hS hA [0, 1, 2, 3, 4, 5] [] [0, 1, 2, 3, 4, 5] rfl rfl (by decide) (by decide) (by decide) (fun _ => rfl) (fun u_3 H locs hw hP hD hS => ?_)
    have eu_3 := hw
    refine lv_iconst (v := (-1 : Int32)) hx hb d_P_sethiOrBranch_37 (by decide) ?_
    exact zl_i (u := u_3) hx hb hr hlocks hS hP hD (⟨by subst eu_3; simp only [f_sethiOrBranch, if_pos c_2], by subst eu_3; simp only [f_sethiOrBranch, if_pos c_2]⟩) d_P_sethiOrBranch_38
  by_cases c_4 : ((zushr p0 (22 : Int32)) &&& (7 : Int32)) = (4 : Int32)
  · refine lv_lookup (tgt := 39) (off := 32) hx hb d_P_sethiOrBranch_7 (by decide) (by rw [c_4]; first | done | rfl) (by decide) ?_
    refine lv_aload_n hx hb d_P_sethiOrBranch_39 rfl (lv_at hl 0 rfl) ?_
    refine lv_iload_n hx hb d_P_sethiOrBranch_40 rfl (lv_at hl 1 rfl) ?_
    refine lv_iload_n hx hb d_P_sethiOrBranch_41 rfl (lv_at hl 1 rfl) ?_
    refine lv_bipush (v := (10 : Int32)) hx hb d_P_sethiOrBranch_42 (by decide) ?_
    refine lv_ishl hx hb d_P_sethiOrBranch_44 ?_
    refine zc_i (w2 := fun u9 => wP h c u9) (va_runV (As := [.int p0, .int (p0 <<< ((10 : Int32) &&& 31))]) (rest := []) ⟨hx, hb, hml, hown, ht⟩ (mt_P_deliver l D h c H.size st p0 (p0 <<< ((10 : Int32) &&& 31)) hW) (cwV 2 ht (zgV zw_546 zw_548 zs_26 zw_4 zw_549) rfl rfl rfl kd_P_deliver ⟨Nat.le_of_ble_eq_true rfl, Nat.le_of_ble_eq_true rfl⟩) ⟨zw_blind zw_tt, va_recv (hK.sub (tys' := [(c 0, .int), (c 1, .int)]) [0, 1] rfl) (hP.sub (ws' := wP h c st) [0, 1, 2, 3, 4, 5] rfl) (ci := 2) (q0 := 0) rfl rfl, zw_go (hP.sub (ws' := wP h c st) [0, 1, 2, 3, 4, 5] rfl) (hD.sub (ws' := wP h c st) [0, 1, 2, 3, 4, 5] (by decide) rfl) (hK.sub (tys' := [(c 0, .int), (c 1, .int)]) [0, 1] rfl) (fun _ _ _ => trivial)⟩ rfl rfl hl.1 rfl (lv_room (Nat.le_of_ble_eq_true rfl)) d_P_sethiOrBranch_45 ⟨Nat.le_of_ble_eq_true rfl, Nat.le_of_ble_eq_true rfl⟩) hP hD hS hA [0, 1, 2, 3, 4, 5] [] [0, 1, 2, 3, 4, 5] rfl rfl (by decide) (by decide) (by decide) (fun _ => rfl) (fun r_5 u_5 H locs hw hP hD hS => ?_)
    obtain ⟨er_5, eu_5⟩ := hw
    exact zl_i (u := u_5) hx hb hr hlocks hS hP hD (⟨by subst er_5; subst eu_5; simp only [f_sethiOrBranch, if_neg c_2, if_pos c_4], by subst er_5; subst eu_5; simp only [f_sethiOrBranch, if_neg c_2, if_pos c_4]⟩) d_P_sethiOrBranch_48
  refine lv_lookup (tgt := 49) (off := 42) hx hb d_P_sethiOrBranch_7 (by decide) (by rw [lv_osw c_2 (a := 2) (by decide), lv_osw c_4 (a := 4) (by decide)]; first | done | rfl) (by decide) ?_
  refine lv_iconst (v := (2 : Int32)) hx hb d_P_sethiOrBranch_49 (by decide) ?_
  exact zl_i (u := st) hx hb hr hlocks hS hP hD (⟨by simp only [f_sethiOrBranch, if_neg c_2, if_neg c_4], by simp only [f_sethiOrBranch, if_neg c_2, if_neg c_4]⟩) d_P_sethiOrBranch_50
theorem d_P_reset_0 : decode c_P_reset 0 = .ok (.aload_n 0, 1) := by decide +kernel
theorem d_P_reset_1 : decode c_P_reset 1 = .ok (.getfield 18, 3) := by decide +kernel
theorem d_P_reset_4 : decode c_P_reset 4 = .ok (.invokevirtual 33, 3) := by decide +kernel
theorem d_P_reset_7 : decode c_P_reset 7 = .ok (.aload_n 0, 1) := by decide +kernel
theorem d_P_reset_8 : decode c_P_reset 8 = .ok (.iconst 0, 1) := by decide +kernel
theorem d_P_reset_9 : decode c_P_reset 9 = .ok (.putfield 36, 3) := by decide +kernel
theorem d_P_reset_12 : decode c_P_reset 12 = .ok (.aload_n 0, 1) := by decide +kernel
theorem d_P_reset_13 : decode c_P_reset 13 = .ok (.iconst 0, 1) := by decide +kernel
theorem d_P_reset_14 : decode c_P_reset 14 = .ok (.iconst 0, 1) := by decide +kernel
theorem d_P_reset_15 : decode c_P_reset 15 = .ok (.iconst 0, 1) := by decide +kernel
theorem d_P_reset_16 : decode c_P_reset 16 = .ok (.iconst 0, 1) := by decide +kernel
theorem d_P_reset_17 : decode c_P_reset 17 = .ok (.iconst 4, 1) := by decide +kernel
theorem d_P_reset_18 : decode c_P_reset 18 = .ok (.invokevirtual 40, 3) := by decide +kernel
theorem d_P_reset_21 : decode c_P_reset 21 = .ok (.aload_n 0, 1) := by decide +kernel
theorem d_P_reset_22 : decode c_P_reset 22 = .ok (.iload_n 1, 1) := by decide +kernel
theorem d_P_reset_23 : decode c_P_reset 23 = .ok (.putfield 44, 3) := by decide +kernel
theorem d_P_reset_26 : decode c_P_reset 26 = .ok (.aload_n 0, 1) := by decide +kernel
theorem d_P_reset_27 : decode c_P_reset 27 = .ok (.iload_n 1, 1) := by decide +kernel
theorem d_P_reset_28 : decode c_P_reset 28 = .ok (.iconst 4, 1) := by decide +kernel
theorem d_P_reset_29 : decode c_P_reset 29 = .ok (.iadd, 1) := by decide +kernel
theorem d_P_reset_30 : decode c_P_reset 30 = .ok (.putfield 47, 3) := by decide +kernel
theorem d_P_reset_33 : decode c_P_reset 33 = .ok (.aload_n 0, 1) := by decide +kernel
theorem d_P_reset_34 : decode c_P_reset 34 = .ok (.iconst 0, 1) := by decide +kernel
theorem d_P_reset_35 : decode c_P_reset 35 = .ok (.putfield 50, 3) := by decide +kernel
theorem d_P_reset_38 : decode c_P_reset 38 = .ok (.aload_n 0, 1) := by decide +kernel
theorem d_P_reset_39 : decode c_P_reset 39 = .ok (.iconst (-1), 1) := by decide +kernel
theorem d_P_reset_40 : decode c_P_reset 40 = .ok (.putfield 54, 3) := by decide +kernel
theorem d_P_reset_43 : decode c_P_reset 43 = .ok (.aload_n 0, 1) := by decide +kernel
theorem d_P_reset_44 : decode c_P_reset 44 = .ok (.iconst 0, 1) := by decide +kernel
theorem d_P_reset_45 : decode c_P_reset 45 = .ok (.putfield 57, 3) := by decide +kernel
theorem d_P_reset_48 : decode c_P_reset 48 = .ok (.aload_n 0, 1) := by decide +kernel
theorem d_P_reset_49 : decode c_P_reset 49 = .ok (.iconst 0, 1) := by decide +kernel
theorem d_P_reset_50 : decode c_P_reset 50 = .ok (.putfield 60, 3) := by decide +kernel
theorem d_P_reset_53 : decode c_P_reset 53 = .ok (.return_, 1) := by decide +kernel
theorem kd_P_reset : (y_P_reset).cls = "WindowMachine$Processor" ∧ (y_P_reset).cls ≠ "java/lang/invoke/MethodHandle" ∧ (y_P_reset).cls ≠ "java/lang/invoke/VarHandle" ∧ (parseMethodDescriptor (y_P_reset).desc).map (fun d => d.parameters.length) = some 1 := by decide +kernel
def f_reset (st : SP) (p0 : Int32) : SP := (let u_1 := f_clear st.2.2.1; (let u_2 := f_adopt (upd st.1 0 (0 : Int32), st.2.1, u_1, st.2.2.2) (0 : Int32) (0 : Int32) (0 : Int32) (0 : Int32) (4 : Int32); (upd (upd (upd (upd (upd (upd u_2.1 8 p0) 9 (p0 + (4 : Int32))) 11 (0 : Int32)) 12 (-1 : Int32)) 13 (0 : Int32)) 14 (0 : Int32), u_2.2.1, u_2.2.2.1, u_2.2.2.2)))
set_option maxHeartbeats 4000000 in
set_option maxRecDepth 100000 in
theorem mt_P_reset (l : Launch) (D : va_G) (h : Nat → Nat) (c : Nat → ClassId) (sz : Nat) (st : SP) (p0 : Int32) : Met l y_P_reset w_P_reset ({ frames := 2, cells := 0, slots := 0, locals := 48 }) (va_Pc [.ref (h 0), .int p0] (zw_pre D vwCl [(c 0, .int), (c 1, .int)] sz (wP h c st) (fun _ => True))) (va_Qv (fun (u : SP) => u = f_reset st p0) (fun u t => zw_at D vwCl (va_A (wP h c st) sz) ((fun (u : SP) => wP h c u) u) t) (va_A (wP h c st) sz)) 0 0 (va_A (wP h c st) sz) := by
  refine zm (Qf := fun A => va_Qv (fun (u : SP) => u = f_reset st p0) (fun u t => zw_at D vwCl A ((fun (u : SP) => wP h c u) u) t) A) (Zf := fun _ _ => True) (cc := c_P_reset) (nL := 2) (ret := none) (by decide) rfl (Nat.le_of_ble_eq_true rfl) ?_
  intro p e s m below meth c9 A H locs ls hx hb hml hown hts hr hlocks hA hK hP hD hS hZ hl
  have hl : lv_has ls 2 [(0, .ref (h 0)), (1, .int p0)] := hl
  have ht : ∀ w9 ∈ zT, w9.before _ s = true := fun w9 h9 => hts w9 (List.mem_cons_of_mem _ h9)
  refine lv_aload_n hx hb d_P_reset_0 rfl (lv_at hl 0 rfl) ?_
  refine va_get (D := D) (ci := 2) (v := .ref (h 3)) (C := "WindowMachine$Processor") (T := T_P) (N := 18) hx hb ht zi_P hown hK hP 0 rfl rfl 1 (by decide) (ht _ zw_117) (fun _ h9 => h9) rfl d_P_reset_1 ?_
  refine zc_v (w2 := fun u9 => wP h c (st.1, st.2.1, u9, st.2.2.2)) (va_runV (As := []) (rest := []) ⟨hx, hb, hml, hown, ht⟩ (mt_R_clear l D (h 3) (h 4) (c 1) H.size st.2.2.1) (cwV 0 ht (zgV zw_104 zw_105 zw_106 zw_5 zw_107) rfl rfl rfl kd_R_clear ⟨Nat.le_of_ble_eq_true rfl, Nat.le_of_ble_eq_true rfl⟩) ⟨zw_blind zw_tt, va_recv (hK.sub (tys' := [((c 1), .int)]) [1] rfl) (hP.sub (ws' := wR (h 3) (h 4) (c 1) st.2.2.1) [3, 4] rfl) (ci := 4) (q0 := 0) rfl rfl, zw_go (hP.sub (ws' := wR (h 3) (h 4) (c 1) st.2.2.1) [3, 4] rfl) (hD.sub (ws' := wR (h 3) (h 4) (c 1) st.2.2.1) [3, 4] (by decide) rfl) (hK.sub (tys' := [((c 1), .int)]) [1] rfl) (fun _ _ _ => trivial)⟩ rfl rfl hl.1 rfl (lv_room (Nat.le_of_ble_eq_true rfl)) d_P_reset_4 ⟨Nat.le_of_ble_eq_true rfl, Nat.le_of_ble_eq_true rfl⟩) hP hD hS hA [3, 4] [0, 1, 2, 5] [0, 1, 2, 4, 5, 3] rfl rfl (by decide) (by decide) (by decide) (fun _ => rfl) (fun u_1 H locs hw hP hD hS => ?_)
  have eu_1 := hw
  refine lv_aload_n hx hb d_P_reset_7 rfl (lv_at hl 0 rfl) ?_
  refine lv_iconst (v := (0 : Int32)) hx hb d_P_reset_8 (by decide) ?_
  refine va_put (D := D) (ci := 2) (v := .int (0 : Int32)) (ty := .int) (C := "WindowMachine$Processor") (T := T_P) (N := 18) hx hb ht zi_P ty_P tyok_P nm_P hown hK hP hD hS 0 rfl rfl 3 (by decide) (ht _ zw_120) (fun _ h9 => h9) rfl (by decide +kernel) rfl rfl (Nat.le_of_ble_eq_true rfl) d_P_reset_9 (fun H locs hP hD hS => ?_)
  have hP : va_P D vwCl (wP h c (upd st.1 0 (0 : Int32), st.2.1, u_1, st.2.2.2)) H := hP
  have hD : va_D A (wP h c (upd st.1 0 (0 : Int32), st.2.1, u_1, st.2.2.2)) := hD
  refine lv_aload_n hx hb d_P_reset_12 rfl (lv_at hl 0 rfl) ?_
  refine lv_iconst (v := (0 : Int32)) hx hb d_P_reset_13 (by decide) ?_
  refine lv_iconst (v := (0 : Int32)) hx hb d_P_reset_14 (by decide) ?_
  refine lv_iconst (v := (0 : Int32)) hx hb d_P_reset_15 (by decide) ?_
  refine lv_iconst (v := (0 : Int32)) hx hb d_P_reset_16 (by decide) ?_
  refine lv_iconst (v := (4 : Int32)) hx hb d_P_reset_17 (by decide) ?_
  refine zc_v (w2 := fun u9 => wP h c u9) (va_runV (As := [.int (0 : Int32), .int (0 : Int32), .int (0 : Int32), .int (0 : Int32), .int (4 : Int32)]) (rest := []) ⟨hx, hb, hml, hown, ht⟩ (mt_P_adopt l D h c H.size (upd st.1 0 (0 : Int32), st.2.1, u_1, st.2.2.2) (0 : Int32) (0 : Int32) (0 : Int32) (0 : Int32) (4 : Int32)) (cwV 5 ht (zgV zw_108 zw_109 zw_110 zw_4 zw_111) rfl rfl rfl kd_P_adopt ⟨Nat.le_of_ble_eq_true rfl, Nat.le_of_ble_eq_true rfl⟩) ⟨zw_blind zw_tt, va_recv (hK.sub (tys' := [(c 0, .int), (c 1, .int)]) [0, 1] rfl) (hP.sub (ws' := wP h c (upd st.1 0 (0 : Int32), st.2.1, u_1, st.2.2.2)) [0, 1, 2, 3, 4, 5] rfl) (ci := 2) (q0 := 0) rfl rfl, zw_go (hP.sub (ws' := wP h c (upd st.1 0 (0 : Int32), st.2.1, u_1, st.2.2.2)) [0, 1, 2, 3, 4, 5] rfl) (hD.sub (ws' := wP h c (upd st.1 0 (0 : Int32), st.2.1, u_1, st.2.2.2)) [0, 1, 2, 3, 4, 5] (by decide) rfl) (hK.sub (tys' := [(c 0, .int), (c 1, .int)]) [0, 1] rfl) (fun _ _ _ => trivial)⟩ rfl rfl hl.1 rfl (lv_room (Nat.le_of_ble_eq_true rfl)) d_P_reset_18 ⟨Nat.le_of_ble_eq_true rfl, Nat.le_of_ble_eq_true rfl⟩) hP hD hS hA [0, 1, 2, 3, 4, 5] [] [0, 1, 2, 3, 4, 5] rfl rfl (by decide) (by decide) (by decide) (fun _ => rfl) (fun u_2 H locs hw hP hD hS => ?_)
  have eu_2 := hw
  refine lv_aload_n hx hb d_P_reset_21 rfl (lv_at hl 0 rfl) ?_
  refine lv_iload_n hx hb d_P_reset_22 rfl (lv_at hl 1 rfl) ?_
  refine va_put (D := D) (ci := 2) (v := .int p0) (ty := .int) (C := "WindowMachine$Processor") (T := T_P) (N := 18) hx hb ht zi_P ty_P tyok_P nm_P hown hK hP hD hS 0 rfl rfl 11 (by decide) (ht _ zw_129) (fun _ h9 => h9) rfl (by decide +kernel) rfl rfl (Nat.le_of_ble_eq_true rfl) d_P_reset_23 (fun H locs hP hD hS => ?_)
  have hP : va_P D vwCl (wP h c (upd u_2.1 8 p0, u_2.2.1, u_2.2.2.1, u_2.2.2.2)) H := hP
  have hD : va_D A (wP h c (upd u_2.1 8 p0, u_2.2.1, u_2.2.2.1, u_2.2.2.2)) := hD
  refine lv_aload_n hx hb d_P_reset_26 rfl (lv_at hl 0 rfl) ?_
  refine lv_iload_n hx hb d_P_reset_27 rfl (lv_at hl 1 rfl) ?_
  refine lv_iconst (v := (4 : Int32)) hx hb d_P_reset_28 (by decide) ?_
  refine lv_iadd hx hb d_P_reset_29 ?_
  refine va_put (D := D) (ci := 2) (v := .int (p0 + (4 : Int32))) (ty := .int) (C := "WindowMachine$Processor") (T := T_P) (N := 18) hx hb ht zi_P ty_P tyok_P nm_P hown hK hP hD hS 0 rfl rfl 12 (by decide) (ht _ zw_130) (fun _ h9 => h9) rfl (by decide +kernel) rfl rfl (Nat.le_of_ble_eq_true rfl) d_P_reset_30 (fun H locs hP hD hS => ?_)
  have hP : va_P D vwCl (wP h c (upd (upd u_2.1 8 p0) 9 (p0 + (4 : Int32)), u_2.2.1, u_2.2.2.1, u_2.2.2.2)) H := hP
  have hD : va_D A (wP h c (upd (upd u_2.1 8 p0) 9 (p0 + (4 : Int32)), u_2.2.1, u_2.2.2.1, u_2.2.2.2)) := hD
  refine lv_aload_n hx hb d_P_reset_33 rfl (lv_at hl 0 rfl) ?_
  refine lv_iconst (v := (0 : Int32)) hx hb d_P_reset_34 (by decide) ?_
  refine va_put (D := D) (ci := 2) (v := .int (0 : Int32)) (ty := .boolean) (C := "WindowMachine$Processor") (T := T_P) (N := 18) hx hb ht zi_P ty_P tyok_P nm_P hown hK hP hD hS 0 rfl rfl 14 (by decide) (ht _ zw_132) (fun _ h9 => h9) rfl (by decide +kernel) rfl rfl (Nat.le_of_ble_eq_true rfl) d_P_reset_35 (fun H locs hP hD hS => ?_)
  have hP : va_P D vwCl (wP h c (upd (upd (upd u_2.1 8 p0) 9 (p0 + (4 : Int32))) 11 (0 : Int32), u_2.2.1, u_2.2.2.1, u_2.2.2.2)) H := hP
  have hD : va_D A (wP h c (upd (upd (upd u_2.1 8 p0) 9 (p0 + (4 : Int32))) 11 (0 : Int32), u_2.2.1, u_2.2.2.1, u_2.2.2.2)) := hD
  refine lv_aload_n hx hb d_P_reset_38 rfl (lv_at hl 0 rfl) ?_
  refine lv_iconst (v := (-1 : Int32)) hx hb d_P_reset_39 (by decide) ?_
  refine va_put (D := D) (ci := 2) (v := .int (-1 : Int32)) (ty := .int) (C := "WindowMachine$Processor") (T := T_P) (N := 18) hx hb ht zi_P ty_P tyok_P nm_P hown hK hP hD hS 0 rfl rfl 15 (by decide) (ht _ zw_133) (fun _ h9 => h9) rfl (by decide +kernel) rfl rfl (Nat.le_of_ble_eq_true rfl) d_P_reset_40 (fun H locs hP hD hS => ?_)
  have hP : va_P D vwCl (wP h c (upd (upd (upd (upd u_2.1 8 p0) 9 (p0 + (4 : Int32))) 11 (0 : Int32)) 12 (-1 : Int32), u_2.2.1, u_2.2.2.1, u_2.2.2.2)) H := hP
  have hD : va_D A (wP h c (upd (upd (upd (upd u_2.1 8 p0) 9 (p0 + (4 : Int32))) 11 (0 : Int32)) 12 (-1 : Int32), u_2.2.1, u_2.2.2.1, u_2.2.2.2)) := hD
  refine lv_aload_n hx hb d_P_reset_43 rfl (lv_at hl 0 rfl) ?_
  refine lv_iconst (v := (0 : Int32)) hx hb d_P_reset_44 (by decide) ?_
  refine va_put (D := D) (ci := 2) (v := .int (0 : Int32)) (ty := .int) (C := "WindowMachine$Processor") (T := T_P) (N := 18) hx hb ht zi_P ty_P tyok_P nm_P hown hK hP hD hS 0 rfl rfl 16 (by decide) (ht _ zw_135) (fun _ h9 => h9) rfl (by decide +kernel) rfl rfl (Nat.le_of_ble_eq_true rfl) d_P_reset_45 (fun H locs hP hD hS => ?_)
  have hP : va_P D vwCl (wP h c (upd (upd (upd (upd (upd u_2.1 8 p0) 9 (p0 + (4 : Int32))) 11 (0 : Int32)) 12 (-1 : Int32)) 13 (0 : Int32), u_2.2.1, u_2.2.2.1, u_2.2.2.2)) H := hP
  have hD : va_D A (wP h c (upd (upd (upd (upd (upd u_2.1 8 p0) 9 (p0 + (4 : Int32))) 11 (0 : Int32)) 12 (-1 : Int32)) 13 (0 : Int32), u_2.2.1, u_2.2.2.1, u_2.2.2.2)) := hD
  refine lv_aload_n hx hb d_P_reset_48 rfl (lv_at hl 0 rfl) ?_
  refine lv_iconst (v := (0 : Int32)) hx hb d_P_reset_49 (by decide) ?_
  refine va_put (D := D) (ci := 2) (v := .int (0 : Int32)) (ty := .int) (C := "WindowMachine$Processor") (T := T_P) (N := 18) hx hb ht zi_P ty_P tyok_P nm_P hown hK hP hD hS 0 rfl rfl 17 (by decide) (ht _ zw_136) (fun _ h9 => h9) rfl (by decide +kernel) rfl rfl (Nat.le_of_ble_eq_true rfl) d_P_reset_50 (fun H locs hP hD hS => ?_)
  have hP : va_P D vwCl (wP h c (upd (upd (upd (upd (upd (upd u_2.1 8 p0) 9 (p0 + (4 : Int32))) 11 (0 : Int32)) 12 (-1 : Int32)) 13 (0 : Int32)) 14 (0 : Int32), u_2.2.1, u_2.2.2.1, u_2.2.2.2)) H := hP
  have hD : va_D A (wP h c (upd (upd (upd (upd (upd (upd u_2.1 8 p0) 9 (p0 + (4 : Int32))) 11 (0 : Int32)) 12 (-1 : Int32)) 13 (0 : Int32)) 14 (0 : Int32), u_2.2.1, u_2.2.2.1, u_2.2.2.2)) := hD
  exact zl_v (u := (upd (upd (upd (upd (upd (upd u_2.1 8 p0) 9 (p0 + (4 : Int32))) 11 (0 : Int32)) 12 (-1 : Int32)) 13 (0 : Int32)) 14 (0 : Int32), u_2.2.1, u_2.2.2.1, u_2.2.2.2)) hx hb hr hlocks hS hP hD (by subst eu_1; subst eu_2; simp only [f_reset]) d_P_reset_53
