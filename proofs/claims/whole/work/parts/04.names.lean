/-- the good words of the tables -/
def zT : List Cond := lw_tbl.filter goodWord
theorem zT_in {w : Cond} (h : w ∈ lw_tbl) (g : goodWord w = true) : w ∈ zT := List.mem_filter.mpr ⟨h, g⟩
theorem zT_good : GoodIn zT zT := fun _ h => ⟨h, good_of_word (List.mem_filter.mp h).2⟩
theorem zT_tbl : GoodIn lw_tbl zT := fun _ h => ⟨(List.mem_filter.mp h).1, good_of_word (List.mem_filter.mp h).2⟩
theorem zg1 {w : Cond} {ws : List Cond} (h : w ∈ zT) (t : GoodIn zT ws) : GoodIn zT (w :: ws) := fun v hv => (List.mem_cons.mp hv).elim (fun e => by rw [e]; exact zT_good w h) (t v)
theorem zg0 {w : Cond} (h : w ∈ zT) : GoodIn zT (w :: zT) := zg1 h zT_good
theorem zgV {own C : String} {idx n : Nat} {y : MethodName} {c : ByteArray} {r : Option FieldType} (h1 : Cond.methodLink own idx y ∈ zT) (h2 : Cond.instanceMethod y ∈ zT) (h3 : Cond.selects C y y ∈ zT) (h4 : Cond.initialized C ∈ zT) (h5 : Cond.code y c n r ∈ zT) : GoodIn zT (wsV own idx C y (.code y c n r :: zT)) :=
  zg1 h1 (zg1 h2 (zg1 h3 (zg1 h4 (zg0 h5))))
theorem zgS {own : String} {idx n : Nat} {y : MethodName} {c : ByteArray} {r : Option FieldType} (h1 : Cond.methodLink own idx y ∈ zT) (h2 : Cond.static y ∈ zT) (h4 : Cond.initialized own ∈ zT) (h5 : Cond.code y c n r ∈ zT) : GoodIn zT (wsS own idx y (.code y c n r :: zT)) :=
  zg1 h1 (zg1 h2 (zg1 h4 (zg0 h5)))
theorem zgO {own : String} {idx n : Nat} {y : MethodName} {c : ByteArray} {r : Option FieldType} (h1 : Cond.methodLink own idx y ∈ zT) (h2 : Cond.static y ∈ zT) (h4 : Cond.initialized y.cls ∈ zT) (h5 : Cond.code y c n r ∈ zT) : GoodIn zT (va_wsS own idx y (.code y c n r :: zT)) :=
  zg1 h1 (zg1 h2 (zg1 h4 (zg0 h5)))
def T_A : u_T := fun k => match k with
  | 0 => ("WindowMachine$Assembler", "line", "[C", true)
  | 1 => ("WindowMachine$Assembler", "length", "I", false)
  | 2 => ("WindowMachine$Assembler", "at", "I", false)
  | 3 => ("WindowMachine$Assembler", "wrong", "I", false)
  | _ => ("WindowMachine$Assembler", "form", "I", false)
def ty_A : Nat → FieldType := fun k => match k with
  | 0 => .array .char
  | 1 => .int
  | 2 => .int
  | 3 => .int
  | _ => .int
theorem nm_A : ∀ a, a < 5 → ∀ b, b < 5 → a ≠ b → (T_A a).2.1 ≠ (T_A b).2.1 := by decide +kernel
theorem tyok_A : ∀ k, k < 5 → parseFieldDescriptor (T_A k).2.2.1 = some (ty_A k) := by decide +kernel
def T_M : u_T := fun k => match k with
  | _ => ("WindowMachine$Memory", "words", "[I", true)
def ty_M : Nat → FieldType := fun k => match k with
  | _ => .array .int
theorem nm_M : ∀ a, a < 1 → ∀ b, b < 1 → a ≠ b → (T_M a).2.1 ≠ (T_M b).2.1 := by decide +kernel
theorem tyok_M : ∀ k, k < 1 → parseFieldDescriptor (T_M k).2.2.1 = some (ty_M k) := by decide +kernel
def T_P : u_T := fun k => match k with
  | 0 => ("WindowMachine$Processor", "memory", "LWindowMachine$Memory;", true)
  | 1 => ("WindowMachine$Processor", "registers", "LWindowMachine$Registers;", true)
  | 2 => ("WindowMachine$Processor", "reckoner", "LWindowMachine$Reckoner;", true)
  | 3 => ("WindowMachine$Processor", "window", "I", false)
  | 4 => ("WindowMachine$Processor", "flags", "I", false)
  | 5 => ("WindowMachine$Processor", "y", "I", false)
  | 6 => ("WindowMachine$Processor", "invalid", "I", false)
  | 7 => ("WindowMachine$Processor", "inKernel", "I", false)
  | 8 => ("WindowMachine$Processor", "wasInKernel", "I", false)
  | 9 => ("WindowMachine$Processor", "trapsOn", "I", false)
  | 10 => ("WindowMachine$Processor", "base", "I", false)
  | 11 => ("WindowMachine$Processor", "pc", "I", false)
  | 12 => ("WindowMachine$Processor", "next", "I", false)
  | 13 => ("WindowMachine$Processor", "afterNext", "I", false)
  | 14 => ("WindowMachine$Processor", "annulled", "Z", false)
  | 15 => ("WindowMachine$Processor", "halted", "I", false)
  | 16 => ("WindowMachine$Processor", "steps", "I", false)
  | _ => ("WindowMachine$Processor", "traps", "I", false)
def ty_P : Nat → FieldType := fun k => match k with
  | 0 => .object "WindowMachine$Memory"
  | 1 => .object "WindowMachine$Registers"
  | 2 => .object "WindowMachine$Reckoner"
  | 3 => .int
  | 4 => .int
  | 5 => .int
  | 6 => .int
  | 7 => .int
  | 8 => .int
  | 9 => .int
  | 10 => .int
  | 11 => .int
  | 12 => .int
  | 13 => .int
  | 14 => .boolean
  | 15 => .int
  | 16 => .int
  | _ => .int
theorem nm_P : ∀ a, a < 18 → ∀ b, b < 18 → a ≠ b → (T_P a).2.1 ≠ (T_P b).2.1 := by decide +kernel
theorem tyok_P : ∀ k, k < 18 → parseFieldDescriptor (T_P k).2.2.1 = some (ty_P k) := by decide +kernel
def T_K : u_T := fun k => match k with
  | 0 => ("WindowMachine$Reckoner", "result", "I", false)
  | 1 => ("WindowMachine$Reckoner", "high", "I", false)
  | 2 => ("WindowMachine$Reckoner", "overflow", "I", false)
  | _ => ("WindowMachine$Reckoner", "carry", "I", false)
def ty_K : Nat → FieldType := fun k => match k with
  | 0 => .int
  | 1 => .int
  | 2 => .int
  | _ => .int
theorem nm_K : ∀ a, a < 4 → ∀ b, b < 4 → a ≠ b → (T_K a).2.1 ≠ (T_K b).2.1 := by decide +kernel
theorem tyok_K : ∀ k, k < 4 → parseFieldDescriptor (T_K k).2.2.1 = some (ty_K k) := by decide +kernel
def T_R : u_T := fun k => match k with
  | _ => ("WindowMachine$Registers", "cells", "[I", true)
def ty_R : Nat → FieldType := fun k => match k with
  | _ => .array .int
theorem nm_R : ∀ a, a < 1 → ∀ b, b < 1 → a ≠ b → (T_R a).2.1 ≠ (T_R b).2.1 := by decide +kernel
theorem tyok_R : ∀ k, k < 1 → parseFieldDescriptor (T_R k).2.2.1 = some (ty_R k) := by decide +kernel
def T_X : u_T := fun k => match k with
  | 0 => ("WindowMachine", "memory", "LWindowMachine$Memory;", true)
  | 1 => ("WindowMachine", "assembler", "LWindowMachine$Assembler;", true)
  | _ => ("WindowMachine", "processor", "LWindowMachine$Processor;", true)
def ty_X : Nat → FieldType := fun k => match k with
  | 0 => .object "WindowMachine$Memory"
  | 1 => .object "WindowMachine$Assembler"
  | _ => .object "WindowMachine$Processor"
theorem nm_X : ∀ a, a < 3 → ∀ b, b < 3 → a ≠ b → (T_X a).2.1 ≠ (T_X b).2.1 := by decide +kernel
theorem tyok_X : ∀ k, k < 3 → parseFieldDescriptor (T_X k).2.2.1 = some (ty_X k) := by decide +kernel
def T_D : u_T := fun k => match k with
  | 0 => ("WindowMachineModel", "names", "[J", true)
  | 1 => ("WindowMachineModel", "forms", "[I", true)
  | 2 => ("WindowMachineModel", "codes", "[I", true)
  | 3 => ("WindowMachineModel", "err", "I", false)
  | 4 => ("WindowMachineModel", "letters", "I", false)
  | 5 => ("WindowMachineModel", "wrongAt", "I", false)
  | 6 => ("WindowMachineModel", "at", "I", false)
  | 7 => ("WindowMachineModel", "line", "[I", true)
  | 8 => ("WindowMachineModel", "memory", "[I", true)
  | 9 => ("WindowMachineModel", "globals", "[I", true)
  | 10 => ("WindowMachineModel", "outs", "[I", true)
  | 11 => ("WindowMachineModel", "locals", "[I", true)
  | 12 => ("WindowMachineModel", "pc", "I", false)
  | 13 => ("WindowMachineModel", "next", "I", false)
  | 14 => ("WindowMachineModel", "window", "I", false)
  | 15 => ("WindowMachineModel", "y", "I", false)
  | 16 => ("WindowMachineModel", "invalid", "I", false)
  | 17 => ("WindowMachineModel", "base", "I", false)
  | 18 => ("WindowMachineModel", "halt", "I", false)
  | 19 => ("WindowMachineModel", "steps", "I", false)
  | 20 => ("WindowMachineModel", "traps", "I", false)
  | 21 => ("WindowMachineModel", "n", "Z", false)
  | 22 => ("WindowMachineModel", "z", "Z", false)
  | 23 => ("WindowMachineModel", "v", "Z", false)
  | 24 => ("WindowMachineModel", "c", "Z", false)
  | 25 => ("WindowMachineModel", "s", "Z", false)
  | 26 => ("WindowMachineModel", "ps", "Z", false)
  | 27 => ("WindowMachineModel", "et", "Z", false)
  | 28 => ("WindowMachineModel", "annulled", "Z", false)
  | 29 => ("WindowMachineModel", "trap", "I", false)
  | _ => ("WindowMachineModel", "target", "I", false)
def ty_D : Nat → FieldType := fun k => match k with
  | 0 => .array .long
  | 1 => .array .int
  | 2 => .array .int
  | 3 => .int
  | 4 => .int
  | 5 => .int
  | 6 => .int
  | 7 => .array .int
  | 8 => .array .int
  | 9 => .array .int
  | 10 => .array .int
  | 11 => .array .int
  | 12 => .int
  | 13 => .int
  | 14 => .int
  | 15 => .int
  | 16 => .int
  | 17 => .int
  | 18 => .int
  | 19 => .int
  | 20 => .int
  | 21 => .boolean
  | 22 => .boolean
  | 23 => .boolean
  | 24 => .boolean
  | 25 => .boolean
  | 26 => .boolean
  | 27 => .boolean
  | 28 => .boolean
  | 29 => .int
  | _ => .int
theorem nm_D : ∀ a, a < 31 → ∀ b, b < 31 → a ≠ b → (T_D a).2.1 ≠ (T_D b).2.1 := by decide +kernel
theorem tyok_D : ∀ k, k < 31 → parseFieldDescriptor (T_D k).2.2.1 = some (ty_D k) := by decide +kernel
abbrev vwCl : List vw_C := [("WindowMachine$Assembler", T_A, 5), ("WindowMachine$Memory", T_M, 1), ("WindowMachine$Processor", T_P, 18), ("WindowMachine$Reckoner", T_K, 4), ("WindowMachine$Registers", T_R, 1), ("WindowMachine", T_X, 3), ("WindowMachineModel", T_D, 31)]
theorem zi_A : ∀ w ∈ u_ws "WindowMachine$Assembler" T_A 5, w ∈ zT := by decide +kernel
theorem zi_M : ∀ w ∈ u_ws "WindowMachine$Memory" T_M 1, w ∈ zT := by decide +kernel
theorem zi_P : ∀ w ∈ u_ws "WindowMachine$Processor" T_P 18, w ∈ zT := by decide +kernel
theorem zi_K : ∀ w ∈ u_ws "WindowMachine$Reckoner" T_K 4, w ∈ zT := by decide +kernel
theorem zi_R : ∀ w ∈ u_ws "WindowMachine$Registers" T_R 1, w ∈ zT := by decide +kernel
theorem zi_X : ∀ w ∈ u_ws "WindowMachine" T_X 3, w ∈ zT := by decide +kernel
theorem zi_D : ∀ w ∈ u_ws "WindowMachineModel" T_D 31, w ∈ zT := by decide +kernel
abbrev y_M_holds : MethodName := ⟨"WindowMachine$Memory", "holds", "(II)Z"⟩
abbrev c_M_holds : ByteArray := prog_4_method_2_code
abbrev w_M_holds : List Cond := .code y_M_holds c_M_holds 3 (Option.some Jvm.ClassFile.FieldType.boolean) :: zT
abbrev y_M_store : MethodName := ⟨"WindowMachine$Memory", "store", "(III)V"⟩
abbrev c_M_store : ByteArray := prog_4_method_4_code
abbrev w_M_store : List Cond := .code y_M_store c_M_store 7 (Option.none : Option Jvm.ClassFile.FieldType) :: zT
abbrev y_M_shiftOf : MethodName := ⟨"WindowMachine$Memory", "shiftOf", "(II)I"⟩
abbrev c_M_shiftOf : ByteArray := prog_4_method_5_code
abbrev w_M_shiftOf : List Cond := .code y_M_shiftOf c_M_shiftOf 2 (Option.some Jvm.ClassFile.FieldType.int) :: zT
abbrev y_M_maskOf : MethodName := ⟨"WindowMachine$Memory", "maskOf", "(I)I"⟩
abbrev c_M_maskOf : ByteArray := prog_4_method_6_code
abbrev w_M_maskOf : List Cond := .code y_M_maskOf c_M_maskOf 1 (Option.some Jvm.ClassFile.FieldType.int) :: zT
abbrev y_M_load : MethodName := ⟨"WindowMachine$Memory", "load", "(II)I"⟩
abbrev c_M_load : ByteArray := prog_4_method_3_code
abbrev w_M_load : List Cond := .code y_M_load c_M_load 3 (Option.some Jvm.ClassFile.FieldType.int) :: zT
theorem zw_2 : (Jvm.Cond.initialized "WindowMachine$Memory") ∈ zT := zT_in (List.mem_append_right _ (List.mem_append_left _ (List.mem_of_getElem? (i := 2) rfl))) (by decide)
theorem zw_33 : (Jvm.Cond.fieldLink "WindowMachine$Memory" (11 : Nat) "WindowMachine$Memory" "words" "[I") ∈ zT := zT_in (List.mem_append_right _ (List.mem_append_left _ (List.mem_of_getElem? (i := 33) rfl))) (by decide)
theorem zw_468 : (Jvm.Cond.methodLink "WindowMachine$Memory" (15 : Nat) ({ cls := "WindowMachine$Memory", name := "shiftOf", desc := "(II)I" } : Jvm.MethodName)) ∈ zT := zT_in (List.mem_append_right _ (List.mem_append_right _ (List.mem_append_left _ (List.mem_of_getElem? (i := 228) rfl)))) (by decide)
theorem zw_469 : (Jvm.Cond.static ({ cls := "WindowMachine$Memory", name := "shiftOf", desc := "(II)I" } : Jvm.MethodName)) ∈ zT := zT_in (List.mem_append_right _ (List.mem_append_right _ (List.mem_append_left _ (List.mem_of_getElem? (i := 229) rfl)))) (by decide)
theorem zw_470 : (Jvm.Cond.code ({ cls := "WindowMachine$Memory", name := "shiftOf", desc := "(II)I" } : Jvm.MethodName) prog_4_method_5_code (2 : Nat) (Option.some Jvm.ClassFile.FieldType.int)) ∈ zT := zT_in (List.mem_append_right _ (List.mem_append_right _ (List.mem_append_left _ (List.mem_of_getElem? (i := 230) rfl)))) (by decide)
theorem zw_471 : (Jvm.Cond.methodLink "WindowMachine$Memory" (19 : Nat) ({ cls := "WindowMachine$Memory", name := "maskOf", desc := "(I)I" } : Jvm.MethodName)) ∈ zT := zT_in (List.mem_append_right _ (List.mem_append_right _ (List.mem_append_left _ (List.mem_of_getElem? (i := 231) rfl)))) (by decide)
theorem zw_472 : (Jvm.Cond.static ({ cls := "WindowMachine$Memory", name := "maskOf", desc := "(I)I" } : Jvm.MethodName)) ∈ zT := zT_in (List.mem_append_right _ (List.mem_append_right _ (List.mem_append_left _ (List.mem_of_getElem? (i := 232) rfl)))) (by decide)
theorem zw_473 : (Jvm.Cond.code ({ cls := "WindowMachine$Memory", name := "maskOf", desc := "(I)I" } : Jvm.MethodName) prog_4_method_6_code (1 : Nat) (Option.some Jvm.ClassFile.FieldType.int)) ∈ zT := zT_in (List.mem_append_right _ (List.mem_append_right _ (List.mem_append_left _ (List.mem_of_getElem? (i := 233) rfl)))) (by decide)
