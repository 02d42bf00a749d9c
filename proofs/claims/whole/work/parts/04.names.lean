/-- the good words of the tables -/
def zT : List Cond := lw_tbl.filter goodWord
theorem zT_in {w : Cond} (h : w ∈ lw_tbl) (g : goodWord w = true) : w ∈ zT := List.mem_filter.mpr ⟨h, g⟩
theorem zT_good : GoodIn zT zT := fun _ h => ⟨h, good_of_word (List.mem_filter.mp h).2⟩
theorem zT_tbl : GoodIn lw_tbl zT := fun _ h => ⟨(List.mem_filter.mp h).1, good_of_word (List.mem_filter.mp h).2⟩
theorem zg1 {w : Cond} {ws : List Cond} (h : w ∈ zT) (t : GoodIn zT ws) : GoodIn zT (w :: ws) := fun v hv => (List.mem_cons.mp hv).elim (fun e => by rw [e]; exact zT_good w h) (t v)
theorem zg0 {w : Cond} (h : w ∈ zT) : GoodIn zT (w :: zT) := zg1 h zT_good
theorem zgV {own C : String} {idx n : Nat} {y : MethodName} {c : ByteArray} {r : Option FieldType} (h1 : Cond.methodLink own idx y ∈ zT) (h2 : Cond.instanceMethod y ∈ zT) (h3 : Cond.selects C y y ∈ zT) (h4 : Cond.initialized C ∈ zT) (h5 : Cond.code y c n r ∈ zT) : GoodIn zT (wsV own idx C y (.code y c n r :: zT)) :=
  zg1 h1 (zg1 h2 (zg1 h3 (zg1 h4 (zg0 h5))))
theorem zgS {own : String} {idx n : Nat} {y : MethodName} {c : ByteArray} {r : Option FieldType} (h1 : Cond.methodLink own idx y ∈ zT) (h2 : Cond.static y ∈ zT) (h4 : Cond.initialized own ∈ zT) (h5 : Cond.code y c n r ∈ zT) : GoodIn zT (wsS own idx y (.code y c n r :: zT)) :=
  zg1 h1 (zg1 h2 (zg1 h4 (zg0 h5)))
theorem zgO {own : String} {idx n : Nat} {y : MethodName} {c : ByteArray} {r : Option FieldType} (h1 : Cond.methodLink own idx y ∈ zT) (h2 : Cond.static y ∈ zT) (h4 : Cond.initialized y.cls ∈ zT) (h5 : Cond.code y c n r ∈ zT) : GoodIn zT (va_wsS own idx y (.code y c n r :: zT)) :=
  zg1 h1 (zg1 h2 (zg1 h4 (zg0 h5)))
def T_A : u_T := fun k => match k with
  | 0 => ("WindowMachine$Assembler", "line", "[C", true)
  | 1 => ("WindowMachine$Assembler", "length", "I", false)
  | 2 => ("WindowMachine$Assembler", "at", "I", false)
  | 3 => ("WindowMachine$Assembler", "wrong", "I", false)
  | _ => ("WindowMachine$Assembler", "form", "I", false)
def ty_A : Nat → FieldType := fun k => match k with
  | 0 => .array .char
  | 1 => .int
  | 2 => .int
  | 3 => .int
  | _ => .int
theorem nm_A : ∀ a, a < 5 → ∀ b, b < 5 → a ≠ b → (T_A a).2.1 ≠ (T_A b).2.1 := by decide +kernel
theorem tyok_A : ∀ k, k < 5 → parseFieldDescriptor (T_A k).2.2.1 = some (ty_A k) := by decide +kernel
def T_M : u_T := fun k => match k with
  | _ => ("WindowMachine$Memory", "words", "[I", true)
def ty_M : Nat → FieldType := fun k => match k with
  | _ => .array .int
theorem nm_M : ∀ a, a < 1 → ∀ b, b < 1 → a ≠ b → (T_M a).2.1 ≠ (T_M b).2.1 := by decide +kernel
theorem tyok_M : ∀ k, k < 1 → parseFieldDescriptor (T_M k).2.2.1 = some (ty_M k) := by decide +kernel
def T_P : u_T := fun k => match k with
  | 0 => ("WindowMachine$Processor", "memory", "LWindowMachine$Memory;", true)
  | 1 => ("WindowMachine$Processor", "registers", "LWindowMachine$Registers;", true)
  | 2 => ("WindowMachine$Processor", "reckoner", "LWindowMachine$Reckoner;", true)
  | 3 => ("WindowMachine$Processor", "window", "I", false)
  | 4 => ("WindowMachine$Processor", "flags", "I", false)
  | 5 => ("WindowMachine$Processor", "y", "I", false)
  | 6 => ("WindowMachine$Processor", "invalid", "I", false)
  | 7 => ("WindowMachine$Processor", "inKernel", "I", false)
  | 8 => ("WindowMachine$Processor", "wasInKernel", "I", false)
  | 9 => ("WindowMachine$Processor", "trapsOn", "I", false)
  | 10 => ("WindowMachine$Processor", "base", "I", false)
  | 11 => ("WindowMachine$Processor", "pc", "I", false)
  | 12 => ("WindowMachine$Processor", "next", "I", false)
  | 13 => ("WindowMachine$Processor", "afterNext", "I", false)
  | 14 => ("WindowMachine$Processor", "annulled", "Z", false)
  | 15 => ("WindowMachine$Processor", "halted", "I", false)
  | 16 => ("WindowMachine$Processor", "steps", "I", false)
  | _ => ("WindowMachine$Processor", "traps", "I", false)
def ty_P : Nat → FieldType := fun k => match k with
  | 0 => .object "WindowMachine$Memory"
  | 1 => .object "WindowMachine$Registers"
  | 2 => .object "WindowMachine$Reckoner"
  | 3 => .int
  | 4 => .int
  | 5 => .int
  | 6 => .int
  | 7 => .int
  | 8 => .int
  | 9 => .int
  | 10 => .int
  | 11 => .int
  | 12 => .int
  | 13 => .int
  | 14 => .boolean
  | 15 => .int
  | 16 => .int
  | _ => .int
theorem nm_P : ∀ a, a < 18 → ∀ b, b < 18 → a ≠ b → (T_P a).2.1 ≠ (T_P b).2.1 := by decide +kernel
theorem tyok_P : ∀ k, k < 18 → parseFieldDescriptor (T_P k).2.2.1 = some (ty_P k) := by decide +kernel
def T_K : u_T := fun k => match k with
  | 0 => ("WindowMachine$Reckoner", "result", "I", false)
  | 1 => ("WindowMachine$Reckoner", "high", "I", false)
  | 2 => ("WindowMachine$Reckoner", "overflow", "I", false)
  | _ => ("WindowMachine$Reckoner", "carry", "I", false)
def ty_K : Nat → FieldType := fun k => match k with
  | 0 => .int
  | 1 => .int
  | 2 => .int
  | _ => .int
theorem nm_K : ∀ a, a < 4 → ∀ b, b < 4 → a ≠ b → (T_K a).2.1 ≠ (T_K b).2.1 := by decide +kernel
theorem tyok_K : ∀ k, k < 4 → parseFieldDescriptor (T_K k).2.2.1 = some (ty_K k) := by decide +kernel
def T_R : u_T := fun k => match k with
  | _ => ("WindowMachine$Registers", "cells", "[I", true)
def ty_R : Nat → FieldType := fun k => match k with
  | _ => .array .int
theorem nm_R : ∀ a, a < 1 → ∀ b, b < 1 → a ≠ b → (T_R a).2.1 ≠ (T_R b).2.1 := by decide +kernel
theorem tyok_R : ∀ k, k < 1 → parseFieldDescriptor (T_R k).2.2.1 = some (ty_R k) := by decide +kernel
def T_X : u_T := fun k => match k with
  | 0 => ("WindowMachine", "memory", "LWindowMachine$Memory;", true)
  | 1 => ("WindowMachine", "assembler", "LWindowMachine$Assembler;", true)
  | _ => ("WindowMachine", "processor", "LWindowMachine$Processor;", true)
def ty_X : Nat → FieldType := fun k => match k with
  | 0 => .object "WindowMachine$Memory"
  | 1 => .object "WindowMachine$Assembler"
  | _ => .object "WindowMachine$Processor"
theorem nm_X : ∀ a, a < 3 → ∀ b, b < 3 → a ≠ b → (T_X a).2.1 ≠ (T_X b).2.1 := by decide +kernel
theorem tyok_X : ∀ k, k < 3 → parseFieldDescriptor (T_X k).2.2.1 = some (ty_X k) := by decide +kernel
def T_D : u_T := fun k => match k with
  | 0 => ("WindowMachineModel", "names", "[J", true)
  | 1 => ("WindowMachineModel", "forms", "[I", true)
  | 2 => ("WindowMachineModel", "codes", "[I", true)
  | 3 => ("WindowMachineModel", "err", "I", false)
  | 4 => ("WindowMachineModel", "letters", "I", false)
  | 5 => ("WindowMachineModel", "wrongAt", "I", false)
  | 6 => ("WindowMachineModel", "at", "I", false)
  | 7 => ("WindowMachineModel", "line", "[I", true)
  | 8 => ("WindowMachineModel", "memory", "[I", true)
  | 9 => ("WindowMachineModel", "globals", "[I", true)
  | 10 => ("WindowMachineModel", "outs", "[I", true)
  | 11 => ("WindowMachineModel", "locals", "[I", true)
  | 12 => ("WindowMachineModel", "pc", "I", false)
  | 13 => ("WindowMachineModel", "next", "I", false)
  | 14 => ("WindowMachineModel", "window", "I", false)
  | 15 => ("WindowMachineModel", "y", "I", false)
  | 16 => ("WindowMachineModel", "invalid", "I", false)
  | 17 => ("WindowMachineModel", "base", "I", false)
  | 18 => ("WindowMachineModel", "halt", "I", false)
  | 19 => ("WindowMachineModel", "steps", "I", false)
  | 20 => ("WindowMachineModel", "traps", "I", false)
  | 21 => ("WindowMachineModel", "n", "Z", false)
  | 22 => ("WindowMachineModel", "z", "Z", false)
  | 23 => ("WindowMachineModel", "v", "Z", false)
  | 24 => ("WindowMachineModel", "c", "Z", false)
  | 25 => ("WindowMachineModel", "s", "Z", false)
  | 26 => ("WindowMachineModel", "ps", "Z", false)
  | 27 => ("WindowMachineModel", "et", "Z", false)
  | 28 => ("WindowMachineModel", "annulled", "Z", false)
  | 29 => ("WindowMachineModel", "trap", "I", false)
  | _ => ("WindowMachineModel", "target", "I", false)
def ty_D : Nat → FieldType := fun k => match k with
  | 0 => .array .long
  | 1 => .array .int
  | 2 => .array .int
  | 3 => .int
  | 4 => .int
  | 5 => .int
  | 6 => .int
  | 7 => .array .int
  | 8 => .array .int
  | 9 => .array .int
  | 10 => .array .int
  | 11 => .array .int
  | 12 => .int
  | 13 => .int
  | 14 => .int
  | 15 => .int
  | 16 => .int
  | 17 => .int
  | 18 => .int
  | 19 => .int
  | 20 => .int
  | 21 => .boolean
  | 22 => .boolean
  | 23 => .boolean
  | 24 => .boolean
  | 25 => .boolean
  | 26 => .boolean
  | 27 => .boolean
  | 28 => .boolean
  | 29 => .int
  | _ => .int
theorem nm_D : ∀ a, a < 31 → ∀ b, b < 31 → a ≠ b → (T_D a).2.1 ≠ (T_D b).2.1 := by decide +kernel
theorem tyok_D : ∀ k, k < 31 → parseFieldDescriptor (T_D k).2.2.1 = some (ty_D k) := by decide +kernel
abbrev vwCl : List vw_C := [("WindowMachine$Assembler", T_A, 5), ("WindowMachine$Memory", T_M, 1), ("WindowMachine$Processor", T_P, 18), ("WindowMachine$Reckoner", T_K, 4), ("WindowMachine$Registers", T_R, 1), ("WindowMachine", T_X, 3), ("WindowMachineModel", T_D, 31)]
theorem zi_A : ∀ w ∈ u_ws "WindowMachine$Assembler" T_A 5, w ∈ zT := by decide +kernel
theorem zi_M : ∀ w ∈ u_ws "WindowMachine$Memory" T_M 1, w ∈ zT := by decide +kernel
theorem zi_P : ∀ w ∈ u_ws "WindowMachine$Processor" T_P 18, w ∈ zT := by decide +kernel
theorem zi_K : ∀ w ∈ u_ws "WindowMachine$Reckoner" T_K 4, w ∈ zT := by decide +kernel
theorem zi_R : ∀ w ∈ u_ws "WindowMachine$Registers" T_R 1, w ∈ zT := by decide +kernel
theorem zi_X : ∀ w ∈ u_ws "WindowMachine" T_X 3, w ∈ zT := by decide +kernel
theorem zi_D : ∀ w ∈ u_ws "WindowMachineModel" T_D 31, w ∈ zT := by decide +kernel
abbrev y_P_reset : MethodName := ⟨"WindowMachine$Processor", "reset", "(I)V"⟩
abbrev c_P_reset : ByteArray := prog_5_method_2_code
abbrev w_P_reset : List Cond := .code y_P_reset c_P_reset 2 (Option.none : Option Jvm.ClassFile.FieldType) :: zT
abbrev y_R_clear : MethodName := ⟨"WindowMachine$Registers", "clear", "()V"⟩
abbrev c_R_clear : ByteArray := prog_7_method_4_code
abbrev w_R_clear : List Cond := .code y_R_clear c_R_clear 2 (Option.none : Option Jvm.ClassFile.FieldType) :: zT
abbrev y_P_adopt : MethodName := ⟨"WindowMachine$Processor", "adopt", "(IIIII)V"⟩
abbrev c_P_adopt : ByteArray := prog_5_method_4_code
abbrev w_P_adopt : List Cond := .code y_P_adopt c_P_adopt 6 (Option.none : Option Jvm.ClassFile.FieldType) :: zT
abbrev y_P_changeMode : MethodName := ⟨"WindowMachine$Processor", "changeMode", "(III)V"⟩
abbrev c_P_changeMode : ByteArray := prog_5_method_5_code
abbrev w_P_changeMode : List Cond := .code y_P_changeMode c_P_changeMode 4 (Option.none : Option Jvm.ClassFile.FieldType) :: zT
abbrev y_M_holds : MethodName := ⟨"WindowMachine$Memory", "holds", "(II)Z"⟩
abbrev c_M_holds : ByteArray := prog_4_method_2_code
abbrev w_M_holds : List Cond := .code y_M_holds c_M_holds 3 (Option.some Jvm.ClassFile.FieldType.boolean) :: zT
abbrev y_M_store : MethodName := ⟨"WindowMachine$Memory", "store", "(III)V"⟩
abbrev c_M_store : ByteArray := prog_4_method_4_code
abbrev w_M_store : List Cond := .code y_M_store c_M_store 7 (Option.none : Option Jvm.ClassFile.FieldType) :: zT
abbrev y_M_shiftOf : MethodName := ⟨"WindowMachine$Memory", "shiftOf", "(II)I"⟩
abbrev c_M_shiftOf : ByteArray := prog_4_method_5_code
abbrev w_M_shiftOf : List Cond := .code y_M_shiftOf c_M_shiftOf 2 (Option.some Jvm.ClassFile.FieldType.int) :: zT
abbrev y_M_maskOf : MethodName := ⟨"WindowMachine$Memory", "maskOf", "(I)I"⟩
abbrev c_M_maskOf : ByteArray := prog_4_method_6_code
abbrev w_M_maskOf : List Cond := .code y_M_maskOf c_M_maskOf 1 (Option.some Jvm.ClassFile.FieldType.int) :: zT
abbrev y_M_load : MethodName := ⟨"WindowMachine$Memory", "load", "(II)I"⟩
abbrev c_M_load : ByteArray := prog_4_method_3_code
abbrev w_M_load : List Cond := .code y_M_load c_M_load 3 (Option.some Jvm.ClassFile.FieldType.int) :: zT
abbrev y_P_hasHalted : MethodName := ⟨"WindowMachine$Processor", "hasHalted", "()Z"⟩
abbrev c_P_hasHalted : ByteArray := prog_5_method_3_code
abbrev w_P_hasHalted : List Cond := .code y_P_hasHalted c_P_hasHalted 1 (Option.some Jvm.ClassFile.FieldType.boolean) :: zT
abbrev y_P_sethiOrBranch : MethodName := ⟨"WindowMachine$Processor", "sethiOrBranch", "(I)I"⟩
abbrev c_P_sethiOrBranch : ByteArray := prog_5_method_11_code
abbrev w_P_sethiOrBranch : List Cond := .code y_P_sethiOrBranch c_P_sethiOrBranch 2 (Option.some Jvm.ClassFile.FieldType.int) :: zT
abbrev y_P_branch : MethodName := ⟨"WindowMachine$Processor", "branch", "(I)V"⟩
abbrev c_P_branch : ByteArray := prog_5_method_12_code
abbrev w_P_branch : List Cond := .code y_P_branch c_P_branch 5 (Option.none : Option Jvm.ClassFile.FieldType) :: zT
abbrev y_P_conditionOf : MethodName := ⟨"WindowMachine$Processor", "conditionOf", "(I)I"⟩
abbrev c_P_conditionOf : ByteArray := prog_5_method_32_code
abbrev w_P_conditionOf : List Cond := .code y_P_conditionOf c_P_conditionOf 1 (Option.some Jvm.ClassFile.FieldType.int) :: zT
abbrev y_P_isMet : MethodName := ⟨"WindowMachine$Processor", "isMet", "(I)Z"⟩
abbrev c_P_isMet : ByteArray := prog_5_method_13_code
abbrev w_P_isMet : List Cond := .code y_P_isMet c_P_isMet 7 (Option.some Jvm.ClassFile.FieldType.boolean) :: zT
abbrev y_P_deliver : MethodName := ⟨"WindowMachine$Processor", "deliver", "(II)I"⟩
abbrev c_P_deliver : ByteArray := prog_5_method_30_code
abbrev w_P_deliver : List Cond := .code y_P_deliver c_P_deliver 3 (Option.some Jvm.ClassFile.FieldType.int) :: zT
abbrev y_P_rdOf : MethodName := ⟨"WindowMachine$Processor", "rdOf", "(I)I"⟩
abbrev c_P_rdOf : ByteArray := prog_5_method_31_code
abbrev w_P_rdOf : List Cond := .code y_P_rdOf c_P_rdOf 1 (Option.some Jvm.ClassFile.FieldType.int) :: zT
abbrev y_R_write : MethodName := ⟨"WindowMachine$Registers", "write", "(III)V"⟩
abbrev c_R_write : ByteArray := prog_7_method_3_code
abbrev w_R_write : List Cond := .code y_R_write c_R_write 4 (Option.none : Option Jvm.ClassFile.FieldType) :: zT
abbrev y_R_cellOf : MethodName := ⟨"WindowMachine$Registers", "cellOf", "(II)I"⟩
abbrev c_R_cellOf : ByteArray := prog_7_method_5_code
abbrev w_R_cellOf : List Cond := .code y_R_cellOf c_R_cellOf 2 (Option.some Jvm.ClassFile.FieldType.int) :: zT
abbrev y_P_call : MethodName := ⟨"WindowMachine$Processor", "call", "(I)I"⟩
abbrev c_P_call : ByteArray := prog_5_method_10_code
abbrev w_P_call : List Cond := .code y_P_call c_P_call 2 (Option.some Jvm.ClassFile.FieldType.int) :: zT
abbrev y_P_operate : MethodName := ⟨"WindowMachine$Processor", "operate", "(I)I"⟩
abbrev c_P_operate : ByteArray := prog_5_method_14_code
abbrev w_P_operate : List Cond := .code y_P_operate c_P_operate 5 (Option.some Jvm.ClassFile.FieldType.int) :: zT
abbrev y_P_op3Of : MethodName := ⟨"WindowMachine$Processor", "op3Of", "(I)I"⟩
abbrev c_P_op3Of : ByteArray := prog_5_method_33_code
abbrev w_P_op3Of : List Cond := .code y_P_op3Of c_P_op3Of 1 (Option.some Jvm.ClassFile.FieldType.int) :: zT
abbrev y_P_rs1Of : MethodName := ⟨"WindowMachine$Processor", "rs1Of", "(I)I"⟩
abbrev c_P_rs1Of : ByteArray := prog_5_method_34_code
abbrev w_P_rs1Of : List Cond := .code y_P_rs1Of c_P_rs1Of 1 (Option.some Jvm.ClassFile.FieldType.int) :: zT
abbrev y_R_read : MethodName := ⟨"WindowMachine$Registers", "read", "(II)I"⟩
abbrev c_R_read : ByteArray := prog_7_method_2_code
abbrev w_R_read : List Cond := .code y_R_read c_R_read 3 (Option.some Jvm.ClassFile.FieldType.int) :: zT
abbrev y_P_secondOperand : MethodName := ⟨"WindowMachine$Processor", "secondOperand", "(I)I"⟩
abbrev c_P_secondOperand : ByteArray := prog_5_method_29_code
abbrev w_P_secondOperand : List Cond := .code y_P_secondOperand c_P_secondOperand 3 (Option.some Jvm.ClassFile.FieldType.int) :: zT
abbrev y_P_reckonInto : MethodName := ⟨"WindowMachine$Processor", "reckonInto", "(IIII)I"⟩
abbrev c_P_reckonInto : ByteArray := prog_5_method_15_code
abbrev w_P_reckonInto : List Cond := .code y_P_reckonInto c_P_reckonInto 6 (Option.some Jvm.ClassFile.FieldType.int) :: zT
abbrev y_K_reckon : MethodName := ⟨"WindowMachine$Reckoner", "reckon", "(IIIII)V"⟩
abbrev c_K_reckon : ByteArray := prog_6_method_2_code
abbrev w_K_reckon : List Cond := .code y_K_reckon c_K_reckon 6 (Option.none : Option Jvm.ClassFile.FieldType) :: zT
abbrev y_K_take : MethodName := ⟨"WindowMachine$Reckoner", "take", "(I)V"⟩
abbrev c_K_take : ByteArray := prog_6_method_6_code
abbrev w_K_take : List Cond := .code y_K_take c_K_take 2 (Option.none : Option Jvm.ClassFile.FieldType) :: zT
abbrev y_K_subtract : MethodName := ⟨"WindowMachine$Reckoner", "subtract", "(III)V"⟩
abbrev c_K_subtract : ByteArray := prog_6_method_4_code
abbrev w_K_subtract : List Cond := .code y_K_subtract c_K_subtract 4 (Option.none : Option Jvm.ClassFile.FieldType) :: zT
abbrev y_K_add : MethodName := ⟨"WindowMachine$Reckoner", "add", "(III)V"⟩
abbrev c_K_add : ByteArray := prog_6_method_3_code
abbrev w_K_add : List Cond := .code y_K_add c_K_add 4 (Option.none : Option Jvm.ClassFile.FieldType) :: zT
abbrev y_K_takeProduct : MethodName := ⟨"WindowMachine$Reckoner", "takeProduct", "(J)V"⟩
abbrev c_K_takeProduct : ByteArray := prog_6_method_7_code
abbrev w_K_takeProduct : List Cond := .code y_K_takeProduct c_K_takeProduct 3 (Option.none : Option Jvm.ClassFile.FieldType) :: zT
abbrev y_K_quotientWithoutSign : MethodName := ⟨"WindowMachine$Reckoner", "quotientWithoutSign", "(JIJ)J"⟩
abbrev c_K_quotientWithoutSign : ByteArray := prog_6_method_9_code
abbrev w_K_quotientWithoutSign : List Cond := .code y_K_quotientWithoutSign c_K_quotientWithoutSign 10 (Option.some Jvm.ClassFile.FieldType.long) :: zT
abbrev y_K_takeQuotient : MethodName := ⟨"WindowMachine$Reckoner", "takeQuotient", "(JJJ)V"⟩
abbrev c_K_takeQuotient : ByteArray := prog_6_method_8_code
abbrev w_K_takeQuotient : List Cond := .code y_K_takeQuotient c_K_takeQuotient 9 (Option.none : Option Jvm.ClassFile.FieldType) :: zT
abbrev y_K_quotientWithSign : MethodName := ⟨"WindowMachine$Reckoner", "quotientWithSign", "(III)J"⟩
abbrev c_K_quotientWithSign : ByteArray := prog_6_method_10_code
abbrev w_K_quotientWithSign : List Cond := .code y_K_quotientWithSign c_K_quotientWithSign 5 (Option.some Jvm.ClassFile.FieldType.long) :: zT
abbrev y_K_flags : MethodName := ⟨"WindowMachine$Reckoner", "flags", "()I"⟩
abbrev c_K_flags : ByteArray := prog_6_method_5_code
abbrev w_K_flags : List Cond := .code y_K_flags c_K_flags 3 (Option.some Jvm.ClassFile.FieldType.int) :: zT
abbrev y_P_multiplyStep : MethodName := ⟨"WindowMachine$Processor", "multiplyStep", "(III)I"⟩
abbrev c_P_multiplyStep : ByteArray := prog_5_method_16_code
abbrev w_P_multiplyStep : List Cond := .code y_P_multiplyStep c_P_multiplyStep 5 (Option.some Jvm.ClassFile.FieldType.int) :: zT
abbrev y_P_readSpecial : MethodName := ⟨"WindowMachine$Processor", "readSpecial", "(II)I"⟩
abbrev c_P_readSpecial : ByteArray := prog_5_method_17_code
abbrev w_P_readSpecial : List Cond := .code y_P_readSpecial c_P_readSpecial 3 (Option.some Jvm.ClassFile.FieldType.int) :: zT
abbrev y_P_writeY : MethodName := ⟨"WindowMachine$Processor", "writeY", "(II)I"⟩
abbrev c_P_writeY : ByteArray := prog_5_method_18_code
abbrev w_P_writeY : List Cond := .code y_P_writeY c_P_writeY 3 (Option.some Jvm.ClassFile.FieldType.int) :: zT
abbrev y_P_writeSpecial : MethodName := ⟨"WindowMachine$Processor", "writeSpecial", "(II)I"⟩
abbrev c_P_writeSpecial : ByteArray := prog_5_method_19_code
abbrev w_P_writeSpecial : List Cond := .code y_P_writeSpecial c_P_writeSpecial 3 (Option.some Jvm.ClassFile.FieldType.int) :: zT
abbrev y_P_writeStatus : MethodName := ⟨"WindowMachine$Processor", "writeStatus", "(I)I"⟩
abbrev c_P_writeStatus : ByteArray := prog_5_method_20_code
abbrev w_P_writeStatus : List Cond := .code y_P_writeStatus c_P_writeStatus 2 (Option.some Jvm.ClassFile.FieldType.int) :: zT
abbrev y_P_jump : MethodName := ⟨"WindowMachine$Processor", "jump", "(II)I"⟩
abbrev c_P_jump : ByteArray := prog_5_method_21_code
abbrev w_P_jump : List Cond := .code y_P_jump c_P_jump 3 (Option.some Jvm.ClassFile.FieldType.int) :: zT
abbrev y_P_returnFromTrap : MethodName := ⟨"WindowMachine$Processor", "returnFromTrap", "(I)I"⟩
abbrev c_P_returnFromTrap : ByteArray := prog_5_method_22_code
abbrev w_P_returnFromTrap : List Cond := .code y_P_returnFromTrap c_P_returnFromTrap 2 (Option.some Jvm.ClassFile.FieldType.int) :: zT
abbrev y_P_windowAbove : MethodName := ⟨"WindowMachine$Processor", "windowAbove", "()I"⟩
abbrev c_P_windowAbove : ByteArray := prog_5_method_36_code
abbrev w_P_windowAbove : List Cond := .code y_P_windowAbove c_P_windowAbove 1 (Option.some Jvm.ClassFile.FieldType.int) :: zT
abbrev y_P_isInvalid : MethodName := ⟨"WindowMachine$Processor", "isInvalid", "(I)Z"⟩
abbrev c_P_isInvalid : ByteArray := prog_5_method_37_code
abbrev w_P_isInvalid : List Cond := .code y_P_isInvalid c_P_isInvalid 2 (Option.some Jvm.ClassFile.FieldType.boolean) :: zT
abbrev y_P_windowBelow : MethodName := ⟨"WindowMachine$Processor", "windowBelow", "()I"⟩
abbrev c_P_windowBelow : ByteArray := prog_5_method_35_code
abbrev w_P_windowBelow : List Cond := .code y_P_windowBelow c_P_windowBelow 1 (Option.some Jvm.ClassFile.FieldType.int) :: zT
abbrev y_P_moveWindow : MethodName := ⟨"WindowMachine$Processor", "moveWindow", "(IIII)I"⟩
abbrev c_P_moveWindow : ByteArray := prog_5_method_23_code
abbrev w_P_moveWindow : List Cond := .code y_P_moveWindow c_P_moveWindow 5 (Option.some Jvm.ClassFile.FieldType.int) :: zT
abbrev y_P_takeTrap : MethodName := ⟨"WindowMachine$Processor", "takeTrap", "(I)V"⟩
abbrev c_P_takeTrap : ByteArray := prog_5_method_8_code
abbrev w_P_takeTrap : List Cond := .code y_P_takeTrap c_P_takeTrap 2 (Option.none : Option Jvm.ClassFile.FieldType) :: zT
abbrev y_P_view : MethodName := ⟨"WindowMachine$Processor", "view", "(I)I"⟩
abbrev c_P_view : ByteArray := prog_5_method_6_code
abbrev w_P_view : List Cond := .code y_P_view c_P_view 2 (Option.some Jvm.ClassFile.FieldType.int) :: zT
theorem zw_2 : (Jvm.Cond.initialized "WindowMachine$Memory") ∈ zT := zT_in (List.mem_append_right _ (List.mem_append_left _ (List.mem_of_getElem? (i := 2) rfl))) (by decide)
theorem zw_4 : (Jvm.Cond.initialized "WindowMachine$Processor") ∈ zT := zT_in (List.mem_append_right _ (List.mem_append_left _ (List.mem_of_getElem? (i := 4) rfl))) (by decide)
theorem zw_5 : (Jvm.Cond.initialized "WindowMachine$Registers") ∈ zT := zT_in (List.mem_append_right _ (List.mem_append_left _ (List.mem_of_getElem? (i := 5) rfl))) (by decide)
theorem zw_6 : (Jvm.Cond.initialized "WindowMachine$Reckoner") ∈ zT := zT_in (List.mem_append_right _ (List.mem_append_left _ (List.mem_of_getElem? (i := 6) rfl))) (by decide)
theorem zw_18 : (Jvm.Cond.initialized "java/lang/Math") ∈ zT := zT_in (List.mem_append_right _ (List.mem_append_left _ (List.mem_of_getElem? (i := 18) rfl))) (by decide)
theorem zw_33 : (Jvm.Cond.fieldLink "WindowMachine$Memory" (11 : Nat) "WindowMachine$Memory" "words" "[I") ∈ zT := zT_in (List.mem_append_right _ (List.mem_append_left _ (List.mem_of_getElem? (i := 33) rfl))) (by decide)
theorem zw_75 : (Jvm.Cond.fieldLink "WindowMachine$Registers" (11 : Nat) "WindowMachine$Registers" "cells" "[I") ∈ zT := zT_in (List.mem_append_right _ (List.mem_append_left _ (List.mem_of_getElem? (i := 75) rfl))) (by decide)
theorem zw_85 : (Jvm.Cond.fieldLink "WindowMachine$Reckoner" (42 : Nat) "WindowMachine$Reckoner" "result" "I") ∈ zT := zT_in (List.mem_append_right _ (List.mem_append_left _ (List.mem_of_getElem? (i := 85) rfl))) (by decide)
theorem zw_87 : (Jvm.Cond.fieldLink "WindowMachine$Reckoner" (52 : Nat) "WindowMachine$Reckoner" "high" "I") ∈ zT := zT_in (List.mem_append_right _ (List.mem_append_left _ (List.mem_of_getElem? (i := 87) rfl))) (by decide)
theorem zw_89 : (Jvm.Cond.fieldLink "WindowMachine$Reckoner" (46 : Nat) "WindowMachine$Reckoner" "overflow" "I") ∈ zT := zT_in (List.mem_append_right _ (List.mem_append_left _ (List.mem_of_getElem? (i := 89) rfl))) (by decide)
theorem zw_90 : (Jvm.Cond.fieldLink "WindowMachine$Reckoner" (49 : Nat) "WindowMachine$Reckoner" "carry" "I") ∈ zT := zT_in (List.mem_append_right _ (List.mem_append_left _ (List.mem_of_getElem? (i := 90) rfl))) (by decide)
theorem zw_104 : (Jvm.Cond.methodLink "WindowMachine$Processor" (33 : Nat) ({ cls := "WindowMachine$Registers", name := "clear", desc := "()V" } : Jvm.MethodName)) ∈ zT := zT_in (List.mem_append_right _ (List.mem_append_left _ (List.mem_of_getElem? (i := 104) rfl))) (by decide)
theorem zw_105 : (Jvm.Cond.instanceMethod ({ cls := "WindowMachine$Registers", name := "clear", desc := "()V" } : Jvm.MethodName)) ∈ zT := zT_in (List.mem_append_right _ (List.mem_append_left _ (List.mem_of_getElem? (i := 105) rfl))) (by decide)
theorem zw_106 : (Jvm.Cond.selects "WindowMachine$Registers" ({ cls := "WindowMachine$Registers", name := "clear", desc := "()V" } : Jvm.MethodName) ({ cls := "WindowMachine$Registers", name := "clear", desc := "()V" } : Jvm.MethodName)) ∈ zT := zT_in (List.mem_append_right _ (List.mem_append_left _ (List.mem_of_getElem? (i := 106) rfl))) (by decide)
theorem zw_107 : (Jvm.Cond.code ({ cls := "WindowMachine$Registers", name := "clear", desc := "()V" } : Jvm.MethodName) prog_7_method_4_code (2 : Nat) (Option.none : Option Jvm.ClassFile.FieldType)) ∈ zT := zT_in (List.mem_append_right _ (List.mem_append_left _ (List.mem_of_getElem? (i := 107) rfl))) (by decide)
theorem zw_108 : (Jvm.Cond.methodLink "WindowMachine$Processor" (40 : Nat) ({ cls := "WindowMachine$Processor", name := "adopt", desc := "(IIIII)V" } : Jvm.MethodName)) ∈ zT := zT_in (List.mem_append_right _ (List.mem_append_left _ (List.mem_of_getElem? (i := 108) rfl))) (by decide)
theorem zw_109 : (Jvm.Cond.instanceMethod ({ cls := "WindowMachine$Processor", name := "adopt", desc := "(IIIII)V" } : Jvm.MethodName)) ∈ zT := zT_in (List.mem_append_right _ (List.mem_append_left _ (List.mem_of_getElem? (i := 109) rfl))) (by decide)
theorem zw_110 : (Jvm.Cond.selects "WindowMachine$Processor" ({ cls := "WindowMachine$Processor", name := "adopt", desc := "(IIIII)V" } : Jvm.MethodName) ({ cls := "WindowMachine$Processor", name := "adopt", desc := "(IIIII)V" } : Jvm.MethodName)) ∈ zT := zT_in (List.mem_append_right _ (List.mem_append_left _ (List.mem_of_getElem? (i := 110) rfl))) (by decide)
theorem zw_111 : (Jvm.Cond.code ({ cls := "WindowMachine$Processor", name := "adopt", desc := "(IIIII)V" } : Jvm.MethodName) prog_5_method_4_code (6 : Nat) (Option.none : Option Jvm.ClassFile.FieldType)) ∈ zT := zT_in (List.mem_append_right _ (List.mem_append_left _ (List.mem_of_getElem? (i := 111) rfl))) (by decide)
theorem zw_112 : (Jvm.Cond.methodLink "WindowMachine$Processor" (75 : Nat) ({ cls := "WindowMachine$Processor", name := "changeMode", desc := "(III)V" } : Jvm.MethodName)) ∈ zT := zT_in (List.mem_append_right _ (List.mem_append_left _ (List.mem_of_getElem? (i := 112) rfl))) (by decide)
theorem zw_114 : (Jvm.Cond.instanceMethod ({ cls := "WindowMachine$Processor", name := "changeMode", desc := "(III)V" } : Jvm.MethodName)) ∈ zT := zT_in (List.mem_append_right _ (List.mem_append_left _ (List.mem_of_getElem? (i := 114) rfl))) (by decide)
theorem zw_115 : (Jvm.Cond.code ({ cls := "WindowMachine$Processor", name := "changeMode", desc := "(III)V" } : Jvm.MethodName) prog_5_method_5_code (4 : Nat) (Option.none : Option Jvm.ClassFile.FieldType)) ∈ zT := zT_in (List.mem_append_right _ (List.mem_append_left _ (List.mem_of_getElem? (i := 115) rfl))) (by decide)
theorem zw_117 : (Jvm.Cond.fieldLink "WindowMachine$Processor" (18 : Nat) "WindowMachine$Processor" "registers" "LWindowMachine$Registers;") ∈ zT := zT_in (List.mem_append_right _ (List.mem_append_left _ (List.mem_of_getElem? (i := 117) rfl))) (by decide)
theorem zw_119 : (Jvm.Cond.fieldLink "WindowMachine$Processor" (25 : Nat) "WindowMachine$Processor" "reckoner" "LWindowMachine$Reckoner;") ∈ zT := zT_in (List.mem_append_right _ (List.mem_append_left _ (List.mem_of_getElem? (i := 119) rfl))) (by decide)
theorem zw_120 : (Jvm.Cond.fieldLink "WindowMachine$Processor" (36 : Nat) "WindowMachine$Processor" "window" "I") ∈ zT := zT_in (List.mem_append_right _ (List.mem_append_left _ (List.mem_of_getElem? (i := 120) rfl))) (by decide)
theorem zw_122 : (Jvm.Cond.fieldLink "WindowMachine$Processor" (63 : Nat) "WindowMachine$Processor" "flags" "I") ∈ zT := zT_in (List.mem_append_right _ (List.mem_append_left _ (List.mem_of_getElem? (i := 122) rfl))) (by decide)
theorem zw_123 : (Jvm.Cond.fieldLink "WindowMachine$Processor" (66 : Nat) "WindowMachine$Processor" "y" "I") ∈ zT := zT_in (List.mem_append_right _ (List.mem_append_left _ (List.mem_of_getElem? (i := 123) rfl))) (by decide)
theorem zw_124 : (Jvm.Cond.fieldLink "WindowMachine$Processor" (69 : Nat) "WindowMachine$Processor" "invalid" "I") ∈ zT := zT_in (List.mem_append_right _ (List.mem_append_left _ (List.mem_of_getElem? (i := 124) rfl))) (by decide)
theorem zw_125 : (Jvm.Cond.fieldLink "WindowMachine$Processor" (79 : Nat) "WindowMachine$Processor" "inKernel" "I") ∈ zT := zT_in (List.mem_append_right _ (List.mem_append_left _ (List.mem_of_getElem? (i := 125) rfl))) (by decide)
theorem zw_126 : (Jvm.Cond.fieldLink "WindowMachine$Processor" (82 : Nat) "WindowMachine$Processor" "wasInKernel" "I") ∈ zT := zT_in (List.mem_append_right _ (List.mem_append_left _ (List.mem_of_getElem? (i := 126) rfl))) (by decide)
theorem zw_127 : (Jvm.Cond.fieldLink "WindowMachine$Processor" (85 : Nat) "WindowMachine$Processor" "trapsOn" "I") ∈ zT := zT_in (List.mem_append_right _ (List.mem_append_left _ (List.mem_of_getElem? (i := 127) rfl))) (by decide)
theorem zw_128 : (Jvm.Cond.fieldLink "WindowMachine$Processor" (72 : Nat) "WindowMachine$Processor" "base" "I") ∈ zT := zT_in (List.mem_append_right _ (List.mem_append_left _ (List.mem_of_getElem? (i := 128) rfl))) (by decide)
theorem zw_129 : (Jvm.Cond.fieldLink "WindowMachine$Processor" (44 : Nat) "WindowMachine$Processor" "pc" "I") ∈ zT := zT_in (List.mem_append_right _ (List.mem_append_left _ (List.mem_of_getElem? (i := 129) rfl))) (by decide)
theorem zw_130 : (Jvm.Cond.fieldLink "WindowMachine$Processor" (47 : Nat) "WindowMachine$Processor" "next" "I") ∈ zT := zT_in (List.mem_append_right _ (List.mem_append_left _ (List.mem_of_getElem? (i := 130) rfl))) (by decide)
theorem zw_131 : (Jvm.Cond.fieldLink "WindowMachine$Processor" (88 : Nat) "WindowMachine$Processor" "afterNext" "I") ∈ zT := zT_in (List.mem_append_right _ (List.mem_append_left _ (List.mem_of_getElem? (i := 131) rfl))) (by decide)
theorem zw_132 : (Jvm.Cond.fieldLink "WindowMachine$Processor" (50 : Nat) "WindowMachine$Processor" "annulled" "Z") ∈ zT := zT_in (List.mem_append_right _ (List.mem_append_left _ (List.mem_of_getElem? (i := 132) rfl))) (by decide)
theorem zw_133 : (Jvm.Cond.fieldLink "WindowMachine$Processor" (54 : Nat) "WindowMachine$Processor" "halted" "I") ∈ zT := zT_in (List.mem_append_right _ (List.mem_append_left _ (List.mem_of_getElem? (i := 133) rfl))) (by decide)
theorem zw_135 : (Jvm.Cond.fieldLink "WindowMachine$Processor" (57 : Nat) "WindowMachine$Processor" "steps" "I") ∈ zT := zT_in (List.mem_append_right _ (List.mem_append_left _ (List.mem_of_getElem? (i := 135) rfl))) (by decide)
theorem zw_136 : (Jvm.Cond.fieldLink "WindowMachine$Processor" (60 : Nat) "WindowMachine$Processor" "traps" "I") ∈ zT := zT_in (List.mem_append_right _ (List.mem_append_left _ (List.mem_of_getElem? (i := 136) rfl))) (by decide)
theorem zw_468 : (Jvm.Cond.methodLink "WindowMachine$Memory" (15 : Nat) ({ cls := "WindowMachine$Memory", name := "shiftOf", desc := "(II)I" } : Jvm.MethodName)) ∈ zT := zT_in (List.mem_append_right _ (List.mem_append_right _ (List.mem_append_left _ (List.mem_of_getElem? (i := 228) rfl)))) (by decide)
theorem zw_469 : (Jvm.Cond.static ({ cls := "WindowMachine$Memory", name := "shiftOf", desc := "(II)I" } : Jvm.MethodName)) ∈ zT := zT_in (List.mem_append_right _ (List.mem_append_right _ (List.mem_append_left _ (List.mem_of_getElem? (i := 229) rfl)))) (by decide)
theorem zw_470 : (Jvm.Cond.code ({ cls := "WindowMachine$Memory", name := "shiftOf", desc := "(II)I" } : Jvm.MethodName) prog_4_method_5_code (2 : Nat) (Option.some Jvm.ClassFile.FieldType.int)) ∈ zT := zT_in (List.mem_append_right _ (List.mem_append_right _ (List.mem_append_left _ (List.mem_of_getElem? (i := 230) rfl)))) (by decide)
theorem zw_471 : (Jvm.Cond.methodLink "WindowMachine$Memory" (19 : Nat) ({ cls := "WindowMachine$Memory", name := "maskOf", desc := "(I)I" } : Jvm.MethodName)) ∈ zT := zT_in (List.mem_append_right _ (List.mem_append_right _ (List.mem_append_left _ (List.mem_of_getElem? (i := 231) rfl)))) (by decide)
theorem zw_472 : (Jvm.Cond.static ({ cls := "WindowMachine$Memory", name := "maskOf", desc := "(I)I" } : Jvm.MethodName)) ∈ zT := zT_in (List.mem_append_right _ (List.mem_append_right _ (List.mem_append_left _ (List.mem_of_getElem? (i := 232) rfl)))) (by decide)
theorem zw_473 : (Jvm.Cond.code ({ cls := "WindowMachine$Memory", name := "maskOf", desc := "(I)I" } : Jvm.MethodName) prog_4_method_6_code (1 : Nat) (Option.some Jvm.ClassFile.FieldType.int)) ∈ zT := zT_in (List.mem_append_right _ (List.mem_append_right _ (List.mem_append_left _ (List.mem_of_getElem? (i := 233) rfl)))) (by decide)
theorem zw_535 : (Jvm.Cond.methodLink "WindowMachine$Processor" (127 : Nat) ({ cls := "WindowMachine$Processor", name := "branch", desc := "(I)V" } : Jvm.MethodName)) ∈ zT := zT_in (List.mem_append_right _ (List.mem_append_right _ (List.mem_append_right _ (List.mem_append_left _ (List.mem_of_getElem? (i := 55) rfl))))) (by decide)
theorem zw_537 : (Jvm.Cond.instanceMethod ({ cls := "WindowMachine$Processor", name := "branch", desc := "(I)V" } : Jvm.MethodName)) ∈ zT := zT_in (List.mem_append_right _ (List.mem_append_right _ (List.mem_append_right _ (List.mem_append_left _ (List.mem_of_getElem? (i := 57) rfl))))) (by decide)
theorem zw_538 : (Jvm.Cond.code ({ cls := "WindowMachine$Processor", name := "branch", desc := "(I)V" } : Jvm.MethodName) prog_5_method_12_code (5 : Nat) (Option.none : Option Jvm.ClassFile.FieldType)) ∈ zT := zT_in (List.mem_append_right _ (List.mem_append_right _ (List.mem_append_right _ (List.mem_append_left _ (List.mem_of_getElem? (i := 58) rfl))))) (by decide)
theorem zw_539 : (Jvm.Cond.methodLink "WindowMachine$Processor" (133 : Nat) ({ cls := "WindowMachine$Processor", name := "conditionOf", desc := "(I)I" } : Jvm.MethodName)) ∈ zT := zT_in (List.mem_append_right _ (List.mem_append_right _ (List.mem_append_right _ (List.mem_append_left _ (List.mem_of_getElem? (i := 59) rfl))))) (by decide)
theorem zw_540 : (Jvm.Cond.static ({ cls := "WindowMachine$Processor", name := "conditionOf", desc := "(I)I" } : Jvm.MethodName)) ∈ zT := zT_in (List.mem_append_right _ (List.mem_append_right _ (List.mem_append_right _ (List.mem_append_left _ (List.mem_of_getElem? (i := 60) rfl))))) (by decide)
theorem zw_541 : (Jvm.Cond.code ({ cls := "WindowMachine$Processor", name := "conditionOf", desc := "(I)I" } : Jvm.MethodName) prog_5_method_32_code (1 : Nat) (Option.some Jvm.ClassFile.FieldType.int)) ∈ zT := zT_in (List.mem_append_right _ (List.mem_append_right _ (List.mem_append_right _ (List.mem_append_left _ (List.mem_of_getElem? (i := 61) rfl))))) (by decide)
theorem zw_542 : (Jvm.Cond.methodLink "WindowMachine$Processor" (136 : Nat) ({ cls := "WindowMachine$Processor", name := "isMet", desc := "(I)Z" } : Jvm.MethodName)) ∈ zT := zT_in (List.mem_append_right _ (List.mem_append_right _ (List.mem_append_right _ (List.mem_append_left _ (List.mem_of_getElem? (i := 62) rfl))))) (by decide)
theorem zw_544 : (Jvm.Cond.instanceMethod ({ cls := "WindowMachine$Processor", name := "isMet", desc := "(I)Z" } : Jvm.MethodName)) ∈ zT := zT_in (List.mem_append_right _ (List.mem_append_right _ (List.mem_append_right _ (List.mem_append_left _ (List.mem_of_getElem? (i := 64) rfl))))) (by decide)
theorem zw_545 : (Jvm.Cond.code ({ cls := "WindowMachine$Processor", name := "isMet", desc := "(I)Z" } : Jvm.MethodName) prog_5_method_13_code (7 : Nat) (Option.some Jvm.ClassFile.FieldType.boolean)) ∈ zT := zT_in (List.mem_append_right _ (List.mem_append_right _ (List.mem_append_right _ (List.mem_append_left _ (List.mem_of_getElem? (i := 65) rfl))))) (by decide)
theorem zw_546 : (Jvm.Cond.methodLink "WindowMachine$Processor" (130 : Nat) ({ cls := "WindowMachine$Processor", name := "deliver", desc := "(II)I" } : Jvm.MethodName)) ∈ zT := zT_in (List.mem_append_right _ (List.mem_append_right _ (List.mem_append_right _ (List.mem_append_left _ (List.mem_of_getElem? (i := 66) rfl))))) (by decide)
theorem zw_548 : (Jvm.Cond.instanceMethod ({ cls := "WindowMachine$Processor", name := "deliver", desc := "(II)I" } : Jvm.MethodName)) ∈ zT := zT_in (List.mem_append_right _ (List.mem_append_right _ (List.mem_append_right _ (List.mem_append_left _ (List.mem_of_getElem? (i := 68) rfl))))) (by decide)
theorem zw_549 : (Jvm.Cond.code ({ cls := "WindowMachine$Processor", name := "deliver", desc := "(II)I" } : Jvm.MethodName) prog_5_method_30_code (3 : Nat) (Option.some Jvm.ClassFile.FieldType.int)) ∈ zT := zT_in (List.mem_append_right _ (List.mem_append_right _ (List.mem_append_right _ (List.mem_append_left _ (List.mem_of_getElem? (i := 69) rfl))))) (by decide)
theorem zw_550 : (Jvm.Cond.methodLink "WindowMachine$Processor" (197 : Nat) ({ cls := "WindowMachine$Processor", name := "rdOf", desc := "(I)I" } : Jvm.MethodName)) ∈ zT := zT_in (List.mem_append_right _ (List.mem_append_right _ (List.mem_append_right _ (List.mem_append_left _ (List.mem_of_getElem? (i := 70) rfl))))) (by decide)
theorem zw_551 : (Jvm.Cond.static ({ cls := "WindowMachine$Processor", name := "rdOf", desc := "(I)I" } : Jvm.MethodName)) ∈ zT := zT_in (List.mem_append_right _ (List.mem_append_right _ (List.mem_append_right _ (List.mem_append_left _ (List.mem_of_getElem? (i := 71) rfl))))) (by decide)
theorem zw_552 : (Jvm.Cond.code ({ cls := "WindowMachine$Processor", name := "rdOf", desc := "(I)I" } : Jvm.MethodName) prog_5_method_31_code (1 : Nat) (Option.some Jvm.ClassFile.FieldType.int)) ∈ zT := zT_in (List.mem_append_right _ (List.mem_append_right _ (List.mem_append_right _ (List.mem_append_left _ (List.mem_of_getElem? (i := 72) rfl))))) (by decide)
theorem zw_553 : (Jvm.Cond.methodLink "WindowMachine$Processor" (101 : Nat) ({ cls := "WindowMachine$Registers", name := "write", desc := "(III)V" } : Jvm.MethodName)) ∈ zT := zT_in (List.mem_append_right _ (List.mem_append_right _ (List.mem_append_right _ (List.mem_append_left _ (List.mem_of_getElem? (i := 73) rfl))))) (by decide)
theorem zw_554 : (Jvm.Cond.instanceMethod ({ cls := "WindowMachine$Registers", name := "write", desc := "(III)V" } : Jvm.MethodName)) ∈ zT := zT_in (List.mem_append_right _ (List.mem_append_right _ (List.mem_append_right _ (List.mem_append_left _ (List.mem_of_getElem? (i := 74) rfl))))) (by decide)
theorem zw_555 : (Jvm.Cond.selects "WindowMachine$Registers" ({ cls := "WindowMachine$Registers", name := "write", desc := "(III)V" } : Jvm.MethodName) ({ cls := "WindowMachine$Registers", name := "write", desc := "(III)V" } : Jvm.MethodName)) ∈ zT := zT_in (List.mem_append_right _ (List.mem_append_right _ (List.mem_append_right _ (List.mem_append_left _ (List.mem_of_getElem? (i := 75) rfl))))) (by decide)
theorem zw_556 : (Jvm.Cond.code ({ cls := "WindowMachine$Registers", name := "write", desc := "(III)V" } : Jvm.MethodName) prog_7_method_3_code (4 : Nat) (Option.none : Option Jvm.ClassFile.FieldType)) ∈ zT := zT_in (List.mem_append_right _ (List.mem_append_right _ (List.mem_append_right _ (List.mem_append_left _ (List.mem_of_getElem? (i := 76) rfl))))) (by decide)
theorem zw_557 : (Jvm.Cond.methodLink "WindowMachine$Registers" (15 : Nat) ({ cls := "WindowMachine$Registers", name := "cellOf", desc := "(II)I" } : Jvm.MethodName)) ∈ zT := zT_in (List.mem_append_right _ (List.mem_append_right _ (List.mem_append_right _ (List.mem_append_left _ (List.mem_of_getElem? (i := 77) rfl))))) (by decide)
theorem zw_558 : (Jvm.Cond.static ({ cls := "WindowMachine$Registers", name := "cellOf", desc := "(II)I" } : Jvm.MethodName)) ∈ zT := zT_in (List.mem_append_right _ (List.mem_append_right _ (List.mem_append_right _ (List.mem_append_left _ (List.mem_of_getElem? (i := 78) rfl))))) (by decide)
theorem zw_559 : (Jvm.Cond.code ({ cls := "WindowMachine$Registers", name := "cellOf", desc := "(II)I" } : Jvm.MethodName) prog_7_method_5_code (2 : Nat) (Option.some Jvm.ClassFile.FieldType.int)) ∈ zT := zT_in (List.mem_append_right _ (List.mem_append_right _ (List.mem_append_right _ (List.mem_append_left _ (List.mem_of_getElem? (i := 79) rfl))))) (by decide)
theorem zw_568 : (Jvm.Cond.methodLink "WindowMachine$Processor" (140 : Nat) ({ cls := "WindowMachine$Processor", name := "op3Of", desc := "(I)I" } : Jvm.MethodName)) ∈ zT := zT_in (List.mem_append_right _ (List.mem_append_right _ (List.mem_append_right _ (List.mem_append_left _ (List.mem_of_getElem? (i := 88) rfl))))) (by decide)
theorem zw_569 : (Jvm.Cond.static ({ cls := "WindowMachine$Processor", name := "op3Of", desc := "(I)I" } : Jvm.MethodName)) ∈ zT := zT_in (List.mem_append_right _ (List.mem_append_right _ (List.mem_append_right _ (List.mem_append_left _ (List.mem_of_getElem? (i := 89) rfl))))) (by decide)
theorem zw_570 : (Jvm.Cond.code ({ cls := "WindowMachine$Processor", name := "op3Of", desc := "(I)I" } : Jvm.MethodName) prog_5_method_33_code (1 : Nat) (Option.some Jvm.ClassFile.FieldType.int)) ∈ zT := zT_in (List.mem_append_right _ (List.mem_append_right _ (List.mem_append_right _ (List.mem_append_left _ (List.mem_of_getElem? (i := 90) rfl))))) (by decide)
theorem zw_571 : (Jvm.Cond.methodLink "WindowMachine$Processor" (143 : Nat) ({ cls := "WindowMachine$Processor", name := "rs1Of", desc := "(I)I" } : Jvm.MethodName)) ∈ zT := zT_in (List.mem_append_right _ (List.mem_append_right _ (List.mem_append_right _ (List.mem_append_left _ (List.mem_of_getElem? (i := 91) rfl))))) (by decide)
theorem zw_572 : (Jvm.Cond.static ({ cls := "WindowMachine$Processor", name := "rs1Of", desc := "(I)I" } : Jvm.MethodName)) ∈ zT := zT_in (List.mem_append_right _ (List.mem_append_right _ (List.mem_append_right _ (List.mem_append_left _ (List.mem_of_getElem? (i := 92) rfl))))) (by decide)
theorem zw_573 : (Jvm.Cond.code ({ cls := "WindowMachine$Processor", name := "rs1Of", desc := "(I)I" } : Jvm.MethodName) prog_5_method_34_code (1 : Nat) (Option.some Jvm.ClassFile.FieldType.int)) ∈ zT := zT_in (List.mem_append_right _ (List.mem_append_right _ (List.mem_append_right _ (List.mem_append_left _ (List.mem_of_getElem? (i := 93) rfl))))) (by decide)
theorem zw_574 : (Jvm.Cond.methodLink "WindowMachine$Processor" (146 : Nat) ({ cls := "WindowMachine$Registers", name := "read", desc := "(II)I" } : Jvm.MethodName)) ∈ zT := zT_in (List.mem_append_right _ (List.mem_append_right _ (List.mem_append_right _ (List.mem_append_left _ (List.mem_of_getElem? (i := 94) rfl))))) (by decide)
theorem zw_575 : (Jvm.Cond.instanceMethod ({ cls := "WindowMachine$Registers", name := "read", desc := "(II)I" } : Jvm.MethodName)) ∈ zT := zT_in (List.mem_append_right _ (List.mem_append_right _ (List.mem_append_right _ (List.mem_append_left _ (List.mem_of_getElem? (i := 95) rfl))))) (by decide)
theorem zw_576 : (Jvm.Cond.selects "WindowMachine$Registers" ({ cls := "WindowMachine$Registers", name := "read", desc := "(II)I" } : Jvm.MethodName) ({ cls := "WindowMachine$Registers", name := "read", desc := "(II)I" } : Jvm.MethodName)) ∈ zT := zT_in (List.mem_append_right _ (List.mem_append_right _ (List.mem_append_right _ (List.mem_append_left _ (List.mem_of_getElem? (i := 96) rfl))))) (by decide)
theorem zw_577 : (Jvm.Cond.code ({ cls := "WindowMachine$Registers", name := "read", desc := "(II)I" } : Jvm.MethodName) prog_7_method_2_code (3 : Nat) (Option.some Jvm.ClassFile.FieldType.int)) ∈ zT := zT_in (List.mem_append_right _ (List.mem_append_right _ (List.mem_append_right _ (List.mem_append_left _ (List.mem_of_getElem? (i := 97) rfl))))) (by decide)
theorem zw_578 : (Jvm.Cond.methodLink "WindowMachine$Processor" (149 : Nat) ({ cls := "WindowMachine$Processor", name := "secondOperand", desc := "(I)I" } : Jvm.MethodName)) ∈ zT := zT_in (List.mem_append_right _ (List.mem_append_right _ (List.mem_append_right _ (List.mem_append_left _ (List.mem_of_getElem? (i := 98) rfl))))) (by decide)
theorem zw_580 : (Jvm.Cond.instanceMethod ({ cls := "WindowMachine$Processor", name := "secondOperand", desc := "(I)I" } : Jvm.MethodName)) ∈ zT := zT_in (List.mem_append_right _ (List.mem_append_right _ (List.mem_append_right _ (List.mem_append_left _ (List.mem_of_getElem? (i := 100) rfl))))) (by decide)
theorem zw_581 : (Jvm.Cond.code ({ cls := "WindowMachine$Processor", name := "secondOperand", desc := "(I)I" } : Jvm.MethodName) prog_5_method_29_code (3 : Nat) (Option.some Jvm.ClassFile.FieldType.int)) ∈ zT := zT_in (List.mem_append_right _ (List.mem_append_right _ (List.mem_append_right _ (List.mem_append_left _ (List.mem_of_getElem? (i := 101) rfl))))) (by decide)
theorem zw_582 : (Jvm.Cond.methodLink "WindowMachine$Processor" (154 : Nat) ({ cls := "WindowMachine$Processor", name := "reckonInto", desc := "(IIII)I" } : Jvm.MethodName)) ∈ zT := zT_in (List.mem_append_right _ (List.mem_append_right _ (List.mem_append_right _ (List.mem_append_left _ (List.mem_of_getElem? (i := 102) rfl))))) (by decide)
theorem zw_584 : (Jvm.Cond.instanceMethod ({ cls := "WindowMachine$Processor", name := "reckonInto", desc := "(IIII)I" } : Jvm.MethodName)) ∈ zT := zT_in (List.mem_append_right _ (List.mem_append_right _ (List.mem_append_right _ (List.mem_append_left _ (List.mem_of_getElem? (i := 104) rfl))))) (by decide)
theorem zw_585 : (Jvm.Cond.code ({ cls := "WindowMachine$Processor", name := "reckonInto", desc := "(IIII)I" } : Jvm.MethodName) prog_5_method_15_code (6 : Nat) (Option.some Jvm.ClassFile.FieldType.int)) ∈ zT := zT_in (List.mem_append_right _ (List.mem_append_right _ (List.mem_append_right _ (List.mem_append_left _ (List.mem_of_getElem? (i := 105) rfl))))) (by decide)
theorem zw_586 : (Jvm.Cond.methodLink "WindowMachine$Processor" (183 : Nat) ({ cls := "WindowMachine$Reckoner", name := "reckon", desc := "(IIIII)V" } : Jvm.MethodName)) ∈ zT := zT_in (List.mem_append_right _ (List.mem_append_right _ (List.mem_append_right _ (List.mem_append_left _ (List.mem_of_getElem? (i := 106) rfl))))) (by decide)
theorem zw_587 : (Jvm.Cond.instanceMethod ({ cls := "WindowMachine$Reckoner", name := "reckon", desc := "(IIIII)V" } : Jvm.MethodName)) ∈ zT := zT_in (List.mem_append_right _ (List.mem_append_right _ (List.mem_append_right _ (List.mem_append_left _ (List.mem_of_getElem? (i := 107) rfl))))) (by decide)
theorem zw_588 : (Jvm.Cond.selects "WindowMachine$Reckoner" ({ cls := "WindowMachine$Reckoner", name := "reckon", desc := "(IIIII)V" } : Jvm.MethodName) ({ cls := "WindowMachine$Reckoner", name := "reckon", desc := "(IIIII)V" } : Jvm.MethodName)) ∈ zT := zT_in (List.mem_append_right _ (List.mem_append_right _ (List.mem_append_right _ (List.mem_append_left _ (List.mem_of_getElem? (i := 108) rfl))))) (by decide)
theorem zw_589 : (Jvm.Cond.code ({ cls := "WindowMachine$Reckoner", name := "reckon", desc := "(IIIII)V" } : Jvm.MethodName) prog_6_method_2_code (6 : Nat) (Option.none : Option Jvm.ClassFile.FieldType)) ∈ zT := zT_in (List.mem_append_right _ (List.mem_append_right _ (List.mem_append_right _ (List.mem_append_left _ (List.mem_of_getElem? (i := 109) rfl))))) (by decide)
theorem zw_590 : (Jvm.Cond.methodLink "WindowMachine$Reckoner" (7 : Nat) ({ cls := "WindowMachine$Reckoner", name := "take", desc := "(I)V" } : Jvm.MethodName)) ∈ zT := zT_in (List.mem_append_right _ (List.mem_append_right _ (List.mem_append_right _ (List.mem_append_left _ (List.mem_of_getElem? (i := 110) rfl))))) (by decide)
theorem zw_592 : (Jvm.Cond.instanceMethod ({ cls := "WindowMachine$Reckoner", name := "take", desc := "(I)V" } : Jvm.MethodName)) ∈ zT := zT_in (List.mem_append_right _ (List.mem_append_right _ (List.mem_append_right _ (List.mem_append_left _ (List.mem_of_getElem? (i := 112) rfl))))) (by decide)
theorem zw_593 : (Jvm.Cond.code ({ cls := "WindowMachine$Reckoner", name := "take", desc := "(I)V" } : Jvm.MethodName) prog_6_method_6_code (2 : Nat) (Option.none : Option Jvm.ClassFile.FieldType)) ∈ zT := zT_in (List.mem_append_right _ (List.mem_append_right _ (List.mem_append_right _ (List.mem_append_left _ (List.mem_of_getElem? (i := 113) rfl))))) (by decide)
theorem zw_594 : (Jvm.Cond.methodLink "WindowMachine$Reckoner" (13 : Nat) ({ cls := "WindowMachine$Reckoner", name := "subtract", desc := "(III)V" } : Jvm.MethodName)) ∈ zT := zT_in (List.mem_append_right _ (List.mem_append_right _ (List.mem_append_right _ (List.mem_append_left _ (List.mem_of_getElem? (i := 114) rfl))))) (by decide)
theorem zw_596 : (Jvm.Cond.instanceMethod ({ cls := "WindowMachine$Reckoner", name := "subtract", desc := "(III)V" } : Jvm.MethodName)) ∈ zT := zT_in (List.mem_append_right _ (List.mem_append_right _ (List.mem_append_right _ (List.mem_append_left _ (List.mem_of_getElem? (i := 116) rfl))))) (by decide)
theorem zw_597 : (Jvm.Cond.code ({ cls := "WindowMachine$Reckoner", name := "subtract", desc := "(III)V" } : Jvm.MethodName) prog_6_method_4_code (4 : Nat) (Option.none : Option Jvm.ClassFile.FieldType)) ∈ zT := zT_in (List.mem_append_right _ (List.mem_append_right _ (List.mem_append_right _ (List.mem_append_left _ (List.mem_of_getElem? (i := 117) rfl))))) (by decide)
theorem zw_598 : (Jvm.Cond.constantLong "WindowMachine$Reckoner" (20 : Nat) (4294967295 : Int64)) ∈ zT := zT_in (List.mem_append_right _ (List.mem_append_right _ (List.mem_append_right _ (List.mem_append_left _ (List.mem_of_getElem? (i := 118) rfl))))) (by decide)
theorem zw_599 : (Jvm.Cond.methodLink "WindowMachine$Reckoner" (17 : Nat) ({ cls := "WindowMachine$Reckoner", name := "add", desc := "(III)V" } : Jvm.MethodName)) ∈ zT := zT_in (List.mem_append_right _ (List.mem_append_right _ (List.mem_append_right _ (List.mem_append_left _ (List.mem_of_getElem? (i := 119) rfl))))) (by decide)
theorem zw_600 : (Jvm.Cond.instanceMethod ({ cls := "WindowMachine$Reckoner", name := "add", desc := "(III)V" } : Jvm.MethodName)) ∈ zT := zT_in (List.mem_append_right _ (List.mem_append_right _ (List.mem_append_right _ (List.mem_append_left _ (List.mem_of_getElem? (i := 120) rfl))))) (by decide)
theorem zw_601 : (Jvm.Cond.selects "WindowMachine$Reckoner" ({ cls := "WindowMachine$Reckoner", name := "add", desc := "(III)V" } : Jvm.MethodName) ({ cls := "WindowMachine$Reckoner", name := "add", desc := "(III)V" } : Jvm.MethodName)) ∈ zT := zT_in (List.mem_append_right _ (List.mem_append_right _ (List.mem_append_right _ (List.mem_append_left _ (List.mem_of_getElem? (i := 121) rfl))))) (by decide)
theorem zw_602 : (Jvm.Cond.code ({ cls := "WindowMachine$Reckoner", name := "add", desc := "(III)V" } : Jvm.MethodName) prog_6_method_3_code (4 : Nat) (Option.none : Option Jvm.ClassFile.FieldType)) ∈ zT := zT_in (List.mem_append_right _ (List.mem_append_right _ (List.mem_append_right _ (List.mem_append_left _ (List.mem_of_getElem? (i := 122) rfl))))) (by decide)
theorem zw_603 : (Jvm.Cond.methodLink "WindowMachine$Reckoner" (22 : Nat) ({ cls := "WindowMachine$Reckoner", name := "takeProduct", desc := "(J)V" } : Jvm.MethodName)) ∈ zT := zT_in (List.mem_append_right _ (List.mem_append_right _ (List.mem_append_right _ (List.mem_append_left _ (List.mem_of_getElem? (i := 123) rfl))))) (by decide)
theorem zw_605 : (Jvm.Cond.instanceMethod ({ cls := "WindowMachine$Reckoner", name := "takeProduct", desc := "(J)V" } : Jvm.MethodName)) ∈ zT := zT_in (List.mem_append_right _ (List.mem_append_right _ (List.mem_append_right _ (List.mem_append_left _ (List.mem_of_getElem? (i := 125) rfl))))) (by decide)
theorem zw_606 : (Jvm.Cond.code ({ cls := "WindowMachine$Reckoner", name := "takeProduct", desc := "(J)V" } : Jvm.MethodName) prog_6_method_7_code (3 : Nat) (Option.none : Option Jvm.ClassFile.FieldType)) ∈ zT := zT_in (List.mem_append_right _ (List.mem_append_right _ (List.mem_append_right _ (List.mem_append_left _ (List.mem_of_getElem? (i := 126) rfl))))) (by decide)
theorem zw_607 : (Jvm.Cond.methodLink "WindowMachine$Reckoner" (26 : Nat) ({ cls := "WindowMachine$Reckoner", name := "quotientWithoutSign", desc := "(JIJ)J" } : Jvm.MethodName)) ∈ zT := zT_in (List.mem_append_right _ (List.mem_append_right _ (List.mem_append_right _ (List.mem_append_left _ (List.mem_of_getElem? (i := 127) rfl))))) (by decide)
theorem zw_608 : (Jvm.Cond.static ({ cls := "WindowMachine$Reckoner", name := "quotientWithoutSign", desc := "(JIJ)J" } : Jvm.MethodName)) ∈ zT := zT_in (List.mem_append_right _ (List.mem_append_right _ (List.mem_append_right _ (List.mem_append_left _ (List.mem_of_getElem? (i := 128) rfl))))) (by decide)
theorem zw_609 : (Jvm.Cond.code ({ cls := "WindowMachine$Reckoner", name := "quotientWithoutSign", desc := "(JIJ)J" } : Jvm.MethodName) prog_6_method_9_code (10 : Nat) (Option.some Jvm.ClassFile.FieldType.long)) ∈ zT := zT_in (List.mem_append_right _ (List.mem_append_right _ (List.mem_append_right _ (List.mem_append_left _ (List.mem_of_getElem? (i := 129) rfl))))) (by decide)
theorem zw_610 : (Jvm.Cond.constantLong "WindowMachine$Reckoner" (64 : Nat) (4294967296 : Int64)) ∈ zT := zT_in (List.mem_append_right _ (List.mem_append_right _ (List.mem_append_right _ (List.mem_append_left _ (List.mem_of_getElem? (i := 130) rfl))))) (by decide)
theorem zw_611 : (Jvm.Cond.methodLink "WindowMachine$Reckoner" (30 : Nat) ({ cls := "WindowMachine$Reckoner", name := "takeQuotient", desc := "(JJJ)V" } : Jvm.MethodName)) ∈ zT := zT_in (List.mem_append_right _ (List.mem_append_right _ (List.mem_append_right _ (List.mem_append_left _ (List.mem_of_getElem? (i := 131) rfl))))) (by decide)
theorem zw_613 : (Jvm.Cond.instanceMethod ({ cls := "WindowMachine$Reckoner", name := "takeQuotient", desc := "(JJJ)V" } : Jvm.MethodName)) ∈ zT := zT_in (List.mem_append_right _ (List.mem_append_right _ (List.mem_append_right _ (List.mem_append_left _ (List.mem_of_getElem? (i := 133) rfl))))) (by decide)
theorem zw_614 : (Jvm.Cond.code ({ cls := "WindowMachine$Reckoner", name := "takeQuotient", desc := "(JJJ)V" } : Jvm.MethodName) prog_6_method_8_code (9 : Nat) (Option.none : Option Jvm.ClassFile.FieldType)) ∈ zT := zT_in (List.mem_append_right _ (List.mem_append_right _ (List.mem_append_right _ (List.mem_append_left _ (List.mem_of_getElem? (i := 134) rfl))))) (by decide)
theorem zw_615 : (Jvm.Cond.methodLink "WindowMachine$Reckoner" (55 : Nat) ({ cls := "java/lang/Math", name := "min", desc := "(JJ)J" } : Jvm.MethodName)) ∈ zT := zT_in (List.mem_append_right _ (List.mem_append_right _ (List.mem_append_right _ (List.mem_append_left _ (List.mem_of_getElem? (i := 135) rfl))))) (by decide)
theorem zw_616 : (Jvm.Cond.static ({ cls := "java/lang/Math", name := "min", desc := "(JJ)J" } : Jvm.MethodName)) ∈ zT := zT_in (List.mem_append_right _ (List.mem_append_right _ (List.mem_append_right _ (List.mem_append_left _ (List.mem_of_getElem? (i := 136) rfl))))) (by decide)
theorem zw_617 : (Jvm.Cond.code ({ cls := "java/lang/Math", name := "min", desc := "(JJ)J" } : Jvm.MethodName) prog_14_method_70_code (4 : Nat) (Option.some Jvm.ClassFile.FieldType.long)) ∈ zT := zT_in (List.mem_append_right _ (List.mem_append_right _ (List.mem_append_right _ (List.mem_append_left _ (List.mem_of_getElem? (i := 137) rfl))))) (by decide)
theorem zw_618 : (Jvm.Cond.methodLink "WindowMachine$Reckoner" (61 : Nat) ({ cls := "java/lang/Math", name := "max", desc := "(JJ)J" } : Jvm.MethodName)) ∈ zT := zT_in (List.mem_append_right _ (List.mem_append_right _ (List.mem_append_right _ (List.mem_append_left _ (List.mem_of_getElem? (i := 138) rfl))))) (by decide)
theorem zw_619 : (Jvm.Cond.static ({ cls := "java/lang/Math", name := "max", desc := "(JJ)J" } : Jvm.MethodName)) ∈ zT := zT_in (List.mem_append_right _ (List.mem_append_right _ (List.mem_append_right _ (List.mem_append_left _ (List.mem_of_getElem? (i := 139) rfl))))) (by decide)
theorem zw_620 : (Jvm.Cond.code ({ cls := "java/lang/Math", name := "max", desc := "(JJ)J" } : Jvm.MethodName) prog_14_method_66_code (4 : Nat) (Option.some Jvm.ClassFile.FieldType.long)) ∈ zT := zT_in (List.mem_append_right _ (List.mem_append_right _ (List.mem_append_right _ (List.mem_append_left _ (List.mem_of_getElem? (i := 140) rfl))))) (by decide)
theorem zw_621 : (Jvm.Cond.methodLink "WindowMachine$Reckoner" (34 : Nat) ({ cls := "WindowMachine$Reckoner", name := "quotientWithSign", desc := "(III)J" } : Jvm.MethodName)) ∈ zT := zT_in (List.mem_append_right _ (List.mem_append_right _ (List.mem_append_right _ (List.mem_append_left _ (List.mem_of_getElem? (i := 141) rfl))))) (by decide)
theorem zw_622 : (Jvm.Cond.static ({ cls := "WindowMachine$Reckoner", name := "quotientWithSign", desc := "(III)J" } : Jvm.MethodName)) ∈ zT := zT_in (List.mem_append_right _ (List.mem_append_right _ (List.mem_append_right _ (List.mem_append_left _ (List.mem_of_getElem? (i := 142) rfl))))) (by decide)
theorem zw_623 : (Jvm.Cond.code ({ cls := "WindowMachine$Reckoner", name := "quotientWithSign", desc := "(III)J" } : Jvm.MethodName) prog_6_method_10_code (5 : Nat) (Option.some Jvm.ClassFile.FieldType.long)) ∈ zT := zT_in (List.mem_append_right _ (List.mem_append_right _ (List.mem_append_right _ (List.mem_append_left _ (List.mem_of_getElem? (i := 143) rfl))))) (by decide)
theorem zw_624 : (Jvm.Cond.constantLong "WindowMachine$Reckoner" (66 : Nat) (-9223372036854775808 : Int64)) ∈ zT := zT_in (List.mem_append_right _ (List.mem_append_right _ (List.mem_append_right _ (List.mem_append_left _ (List.mem_of_getElem? (i := 144) rfl))))) (by decide)
theorem zw_625 : (Jvm.Cond.constantLong "WindowMachine$Reckoner" (68 : Nat) (2147483648 : Int64)) ∈ zT := zT_in (List.mem_append_right _ (List.mem_append_right _ (List.mem_append_right _ (List.mem_append_left _ (List.mem_of_getElem? (i := 145) rfl))))) (by decide)
theorem zw_626 : (Jvm.Cond.constantLong "WindowMachine$Reckoner" (38 : Nat) (-2147483648 : Int64)) ∈ zT := zT_in (List.mem_append_right _ (List.mem_append_right _ (List.mem_append_right _ (List.mem_append_left _ (List.mem_of_getElem? (i := 146) rfl))))) (by decide)
theorem zw_627 : (Jvm.Cond.constantLong "WindowMachine$Reckoner" (40 : Nat) (2147483647 : Int64)) ∈ zT := zT_in (List.mem_append_right _ (List.mem_append_right _ (List.mem_append_right _ (List.mem_append_left _ (List.mem_of_getElem? (i := 147) rfl))))) (by decide)
theorem zw_628 : (Jvm.Cond.methodLink "WindowMachine$Processor" (189 : Nat) ({ cls := "WindowMachine$Reckoner", name := "flags", desc := "()I" } : Jvm.MethodName)) ∈ zT := zT_in (List.mem_append_right _ (List.mem_append_right _ (List.mem_append_right _ (List.mem_append_left _ (List.mem_of_getElem? (i := 148) rfl))))) (by decide)
theorem zw_629 : (Jvm.Cond.instanceMethod ({ cls := "WindowMachine$Reckoner", name := "flags", desc := "()I" } : Jvm.MethodName)) ∈ zT := zT_in (List.mem_append_right _ (List.mem_append_right _ (List.mem_append_right _ (List.mem_append_left _ (List.mem_of_getElem? (i := 149) rfl))))) (by decide)
theorem zw_630 : (Jvm.Cond.selects "WindowMachine$Reckoner" ({ cls := "WindowMachine$Reckoner", name := "flags", desc := "()I" } : Jvm.MethodName) ({ cls := "WindowMachine$Reckoner", name := "flags", desc := "()I" } : Jvm.MethodName)) ∈ zT := zT_in (List.mem_append_right _ (List.mem_append_right _ (List.mem_append_right _ (List.mem_append_left _ (List.mem_of_getElem? (i := 150) rfl))))) (by decide)
theorem zw_631 : (Jvm.Cond.code ({ cls := "WindowMachine$Reckoner", name := "flags", desc := "()I" } : Jvm.MethodName) prog_6_method_5_code (3 : Nat) (Option.some Jvm.ClassFile.FieldType.int)) ∈ zT := zT_in (List.mem_append_right _ (List.mem_append_right _ (List.mem_append_right _ (List.mem_append_left _ (List.mem_of_getElem? (i := 151) rfl))))) (by decide)
theorem zw_632 : (Jvm.Cond.methodLink "WindowMachine$Processor" (158 : Nat) ({ cls := "WindowMachine$Processor", name := "multiplyStep", desc := "(III)I" } : Jvm.MethodName)) ∈ zT := zT_in (List.mem_append_right _ (List.mem_append_right _ (List.mem_append_right _ (List.mem_append_left _ (List.mem_of_getElem? (i := 152) rfl))))) (by decide)
theorem zw_634 : (Jvm.Cond.instanceMethod ({ cls := "WindowMachine$Processor", name := "multiplyStep", desc := "(III)I" } : Jvm.MethodName)) ∈ zT := zT_in (List.mem_append_right _ (List.mem_append_right _ (List.mem_append_right _ (List.mem_append_left _ (List.mem_of_getElem? (i := 154) rfl))))) (by decide)
theorem zw_635 : (Jvm.Cond.code ({ cls := "WindowMachine$Processor", name := "multiplyStep", desc := "(III)I" } : Jvm.MethodName) prog_5_method_16_code (5 : Nat) (Option.some Jvm.ClassFile.FieldType.int)) ∈ zT := zT_in (List.mem_append_right _ (List.mem_append_right _ (List.mem_append_right _ (List.mem_append_left _ (List.mem_of_getElem? (i := 155) rfl))))) (by decide)
theorem zw_636 : (Jvm.Cond.methodLink "WindowMachine$Processor" (194 : Nat) ({ cls := "WindowMachine$Reckoner", name := "add", desc := "(III)V" } : Jvm.MethodName)) ∈ zT := zT_in (List.mem_append_right _ (List.mem_append_right _ (List.mem_append_right _ (List.mem_append_left _ (List.mem_of_getElem? (i := 156) rfl))))) (by decide)
theorem zw_637 : (Jvm.Cond.methodLink "WindowMachine$Processor" (162 : Nat) ({ cls := "WindowMachine$Processor", name := "readSpecial", desc := "(II)I" } : Jvm.MethodName)) ∈ zT := zT_in (List.mem_append_right _ (List.mem_append_right _ (List.mem_append_right _ (List.mem_append_left _ (List.mem_of_getElem? (i := 157) rfl))))) (by decide)
theorem zw_639 : (Jvm.Cond.instanceMethod ({ cls := "WindowMachine$Processor", name := "readSpecial", desc := "(II)I" } : Jvm.MethodName)) ∈ zT := zT_in (List.mem_append_right _ (List.mem_append_right _ (List.mem_append_right _ (List.mem_append_left _ (List.mem_of_getElem? (i := 159) rfl))))) (by decide)
theorem zw_640 : (Jvm.Cond.code ({ cls := "WindowMachine$Processor", name := "readSpecial", desc := "(II)I" } : Jvm.MethodName) prog_5_method_17_code (3 : Nat) (Option.some Jvm.ClassFile.FieldType.int)) ∈ zT := zT_in (List.mem_append_right _ (List.mem_append_right _ (List.mem_append_right _ (List.mem_append_left _ (List.mem_of_getElem? (i := 160) rfl))))) (by decide)
theorem zw_641 : (Jvm.Cond.methodLink "WindowMachine$Processor" (165 : Nat) ({ cls := "WindowMachine$Processor", name := "writeY", desc := "(II)I" } : Jvm.MethodName)) ∈ zT := zT_in (List.mem_append_right _ (List.mem_append_right _ (List.mem_append_right _ (List.mem_append_left _ (List.mem_of_getElem? (i := 161) rfl))))) (by decide)
theorem zw_643 : (Jvm.Cond.instanceMethod ({ cls := "WindowMachine$Processor", name := "writeY", desc := "(II)I" } : Jvm.MethodName)) ∈ zT := zT_in (List.mem_append_right _ (List.mem_append_right _ (List.mem_append_right _ (List.mem_append_left _ (List.mem_of_getElem? (i := 163) rfl))))) (by decide)
theorem zw_644 : (Jvm.Cond.code ({ cls := "WindowMachine$Processor", name := "writeY", desc := "(II)I" } : Jvm.MethodName) prog_5_method_18_code (3 : Nat) (Option.some Jvm.ClassFile.FieldType.int)) ∈ zT := zT_in (List.mem_append_right _ (List.mem_append_right _ (List.mem_append_right _ (List.mem_append_left _ (List.mem_of_getElem? (i := 164) rfl))))) (by decide)
theorem zw_645 : (Jvm.Cond.methodLink "WindowMachine$Processor" (168 : Nat) ({ cls := "WindowMachine$Processor", name := "writeSpecial", desc := "(II)I" } : Jvm.MethodName)) ∈ zT := zT_in (List.mem_append_right _ (List.mem_append_right _ (List.mem_append_right _ (List.mem_append_left _ (List.mem_of_getElem? (i := 165) rfl))))) (by decide)
theorem zw_647 : (Jvm.Cond.instanceMethod ({ cls := "WindowMachine$Processor", name := "writeSpecial", desc := "(II)I" } : Jvm.MethodName)) ∈ zT := zT_in (List.mem_append_right _ (List.mem_append_right _ (List.mem_append_right _ (List.mem_append_left _ (List.mem_of_getElem? (i := 167) rfl))))) (by decide)
theorem zw_648 : (Jvm.Cond.code ({ cls := "WindowMachine$Processor", name := "writeSpecial", desc := "(II)I" } : Jvm.MethodName) prog_5_method_19_code (3 : Nat) (Option.some Jvm.ClassFile.FieldType.int)) ∈ zT := zT_in (List.mem_append_right _ (List.mem_append_right _ (List.mem_append_right _ (List.mem_append_left _ (List.mem_of_getElem? (i := 168) rfl))))) (by decide)
theorem zw_649 : (Jvm.Cond.methodLink "WindowMachine$Processor" (200 : Nat) ({ cls := "WindowMachine$Processor", name := "writeStatus", desc := "(I)I" } : Jvm.MethodName)) ∈ zT := zT_in (List.mem_append_right _ (List.mem_append_right _ (List.mem_append_right _ (List.mem_append_left _ (List.mem_of_getElem? (i := 169) rfl))))) (by decide)
theorem zw_651 : (Jvm.Cond.instanceMethod ({ cls := "WindowMachine$Processor", name := "writeStatus", desc := "(I)I" } : Jvm.MethodName)) ∈ zT := zT_in (List.mem_append_right _ (List.mem_append_right _ (List.mem_append_right _ (List.mem_append_left _ (List.mem_of_getElem? (i := 171) rfl))))) (by decide)
theorem zw_652 : (Jvm.Cond.code ({ cls := "WindowMachine$Processor", name := "writeStatus", desc := "(I)I" } : Jvm.MethodName) prog_5_method_20_code (2 : Nat) (Option.some Jvm.ClassFile.FieldType.int)) ∈ zT := zT_in (List.mem_append_right _ (List.mem_append_right _ (List.mem_append_right _ (List.mem_append_left _ (List.mem_of_getElem? (i := 172) rfl))))) (by decide)
theorem zw_653 : (Jvm.Cond.methodLink "WindowMachine$Processor" (171 : Nat) ({ cls := "WindowMachine$Processor", name := "jump", desc := "(II)I" } : Jvm.MethodName)) ∈ zT := zT_in (List.mem_append_right _ (List.mem_append_right _ (List.mem_append_right _ (List.mem_append_left _ (List.mem_of_getElem? (i := 173) rfl))))) (by decide)
theorem zw_655 : (Jvm.Cond.instanceMethod ({ cls := "WindowMachine$Processor", name := "jump", desc := "(II)I" } : Jvm.MethodName)) ∈ zT := zT_in (List.mem_append_right _ (List.mem_append_right _ (List.mem_append_right _ (List.mem_append_left _ (List.mem_of_getElem? (i := 175) rfl))))) (by decide)
theorem zw_656 : (Jvm.Cond.code ({ cls := "WindowMachine$Processor", name := "jump", desc := "(II)I" } : Jvm.MethodName) prog_5_method_21_code (3 : Nat) (Option.some Jvm.ClassFile.FieldType.int)) ∈ zT := zT_in (List.mem_append_right _ (List.mem_append_right _ (List.mem_append_right _ (List.mem_append_left _ (List.mem_of_getElem? (i := 176) rfl))))) (by decide)
theorem zw_657 : (Jvm.Cond.methodLink "WindowMachine$Processor" (174 : Nat) ({ cls := "WindowMachine$Processor", name := "returnFromTrap", desc := "(I)I" } : Jvm.MethodName)) ∈ zT := zT_in (List.mem_append_right _ (List.mem_append_right _ (List.mem_append_right _ (List.mem_append_left _ (List.mem_of_getElem? (i := 177) rfl))))) (by decide)
theorem zw_659 : (Jvm.Cond.instanceMethod ({ cls := "WindowMachine$Processor", name := "returnFromTrap", desc := "(I)I" } : Jvm.MethodName)) ∈ zT := zT_in (List.mem_append_right _ (List.mem_append_right _ (List.mem_append_right _ (List.mem_append_left _ (List.mem_of_getElem? (i := 179) rfl))))) (by decide)
theorem zw_660 : (Jvm.Cond.code ({ cls := "WindowMachine$Processor", name := "returnFromTrap", desc := "(I)I" } : Jvm.MethodName) prog_5_method_22_code (2 : Nat) (Option.some Jvm.ClassFile.FieldType.int)) ∈ zT := zT_in (List.mem_append_right _ (List.mem_append_right _ (List.mem_append_right _ (List.mem_append_left _ (List.mem_of_getElem? (i := 180) rfl))))) (by decide)
theorem zw_661 : (Jvm.Cond.methodLink "WindowMachine$Processor" (180 : Nat) ({ cls := "WindowMachine$Processor", name := "windowAbove", desc := "()I" } : Jvm.MethodName)) ∈ zT := zT_in (List.mem_append_right _ (List.mem_append_right _ (List.mem_append_right _ (List.mem_append_left _ (List.mem_of_getElem? (i := 181) rfl))))) (by decide)
theorem zw_663 : (Jvm.Cond.instanceMethod ({ cls := "WindowMachine$Processor", name := "windowAbove", desc := "()I" } : Jvm.MethodName)) ∈ zT := zT_in (List.mem_append_right _ (List.mem_append_right _ (List.mem_append_right _ (List.mem_append_left _ (List.mem_of_getElem? (i := 183) rfl))))) (by decide)
theorem zw_664 : (Jvm.Cond.code ({ cls := "WindowMachine$Processor", name := "windowAbove", desc := "()I" } : Jvm.MethodName) prog_5_method_36_code (1 : Nat) (Option.some Jvm.ClassFile.FieldType.int)) ∈ zT := zT_in (List.mem_append_right _ (List.mem_append_right _ (List.mem_append_right _ (List.mem_append_left _ (List.mem_of_getElem? (i := 184) rfl))))) (by decide)
theorem zw_665 : (Jvm.Cond.methodLink "WindowMachine$Processor" (203 : Nat) ({ cls := "WindowMachine$Processor", name := "isInvalid", desc := "(I)Z" } : Jvm.MethodName)) ∈ zT := zT_in (List.mem_append_right _ (List.mem_append_right _ (List.mem_append_right _ (List.mem_append_left _ (List.mem_of_getElem? (i := 185) rfl))))) (by decide)
theorem zw_667 : (Jvm.Cond.instanceMethod ({ cls := "WindowMachine$Processor", name := "isInvalid", desc := "(I)Z" } : Jvm.MethodName)) ∈ zT := zT_in (List.mem_append_right _ (List.mem_append_right _ (List.mem_append_right _ (List.mem_append_left _ (List.mem_of_getElem? (i := 187) rfl))))) (by decide)
theorem zw_668 : (Jvm.Cond.code ({ cls := "WindowMachine$Processor", name := "isInvalid", desc := "(I)Z" } : Jvm.MethodName) prog_5_method_37_code (2 : Nat) (Option.some Jvm.ClassFile.FieldType.boolean)) ∈ zT := zT_in (List.mem_append_right _ (List.mem_append_right _ (List.mem_append_right _ (List.mem_append_left _ (List.mem_of_getElem? (i := 188) rfl))))) (by decide)
theorem zw_669 : (Jvm.Cond.methodLink "WindowMachine$Processor" (98 : Nat) ({ cls := "WindowMachine$Processor", name := "windowBelow", desc := "()I" } : Jvm.MethodName)) ∈ zT := zT_in (List.mem_append_right _ (List.mem_append_right _ (List.mem_append_right _ (List.mem_append_left _ (List.mem_of_getElem? (i := 189) rfl))))) (by decide)
theorem zw_671 : (Jvm.Cond.instanceMethod ({ cls := "WindowMachine$Processor", name := "windowBelow", desc := "()I" } : Jvm.MethodName)) ∈ zT := zT_in (List.mem_append_right _ (List.mem_append_right _ (List.mem_append_right _ (List.mem_append_left _ (List.mem_of_getElem? (i := 191) rfl))))) (by decide)
theorem zw_672 : (Jvm.Cond.code ({ cls := "WindowMachine$Processor", name := "windowBelow", desc := "()I" } : Jvm.MethodName) prog_5_method_35_code (1 : Nat) (Option.some Jvm.ClassFile.FieldType.int)) ∈ zT := zT_in (List.mem_append_right _ (List.mem_append_right _ (List.mem_append_right _ (List.mem_append_left _ (List.mem_of_getElem? (i := 192) rfl))))) (by decide)
theorem zw_673 : (Jvm.Cond.methodLink "WindowMachine$Processor" (177 : Nat) ({ cls := "WindowMachine$Processor", name := "moveWindow", desc := "(IIII)I" } : Jvm.MethodName)) ∈ zT := zT_in (List.mem_append_right _ (List.mem_append_right _ (List.mem_append_right _ (List.mem_append_left _ (List.mem_of_getElem? (i := 193) rfl))))) (by decide)
theorem zw_675 : (Jvm.Cond.instanceMethod ({ cls := "WindowMachine$Processor", name := "moveWindow", desc := "(IIII)I" } : Jvm.MethodName)) ∈ zT := zT_in (List.mem_append_right _ (List.mem_append_right _ (List.mem_append_right _ (List.mem_append_left _ (List.mem_of_getElem? (i := 195) rfl))))) (by decide)
theorem zw_676 : (Jvm.Cond.code ({ cls := "WindowMachine$Processor", name := "moveWindow", desc := "(IIII)I" } : Jvm.MethodName) prog_5_method_23_code (5 : Nat) (Option.some Jvm.ClassFile.FieldType.int)) ∈ zT := zT_in (List.mem_append_right _ (List.mem_append_right _ (List.mem_append_right _ (List.mem_append_left _ (List.mem_of_getElem? (i := 196) rfl))))) (by decide)
theorem zs_0 : Cond.selects "WindowMachine$Processor" (⟨"WindowMachine$Processor", "changeMode", "(III)V"⟩) (⟨"WindowMachine$Processor", "changeMode", "(III)V"⟩) ∈ zT := zT_in (List.mem_append_left _ (List.mem_map.mpr ⟨((⟨"WindowMachine$Processor", "changeMode", "(III)V"⟩ : MethodName), 18), List.mem_append_left _ (List.mem_of_getElem? (i := 0) rfl), rfl⟩)) (by decide)
theorem zs_24 : Cond.selects "WindowMachine$Processor" (⟨"WindowMachine$Processor", "branch", "(I)V"⟩) (⟨"WindowMachine$Processor", "branch", "(I)V"⟩) ∈ zT := zT_in (List.mem_append_left _ (List.mem_map.mpr ⟨((⟨"WindowMachine$Processor", "branch", "(I)V"⟩ : MethodName), 18), List.mem_append_right _ (List.mem_append_left _ (List.mem_of_getElem? (i := 8) rfl)), rfl⟩)) (by decide)
theorem zs_25 : Cond.selects "WindowMachine$Processor" (⟨"WindowMachine$Processor", "isMet", "(I)Z"⟩) (⟨"WindowMachine$Processor", "isMet", "(I)Z"⟩) ∈ zT := zT_in (List.mem_append_left _ (List.mem_map.mpr ⟨((⟨"WindowMachine$Processor", "isMet", "(I)Z"⟩ : MethodName), 18), List.mem_append_right _ (List.mem_append_left _ (List.mem_of_getElem? (i := 9) rfl)), rfl⟩)) (by decide)
theorem zs_26 : Cond.selects "WindowMachine$Processor" (⟨"WindowMachine$Processor", "deliver", "(II)I"⟩) (⟨"WindowMachine$Processor", "deliver", "(II)I"⟩) ∈ zT := zT_in (List.mem_append_left _ (List.mem_map.mpr ⟨((⟨"WindowMachine$Processor", "deliver", "(II)I"⟩ : MethodName), 18), List.mem_append_right _ (List.mem_append_left _ (List.mem_of_getElem? (i := 10) rfl)), rfl⟩)) (by decide)
theorem zs_29 : Cond.selects "WindowMachine$Processor" (⟨"WindowMachine$Processor", "secondOperand", "(I)I"⟩) (⟨"WindowMachine$Processor", "secondOperand", "(I)I"⟩) ∈ zT := zT_in (List.mem_append_left _ (List.mem_map.mpr ⟨((⟨"WindowMachine$Processor", "secondOperand", "(I)I"⟩ : MethodName), 18), List.mem_append_right _ (List.mem_append_left _ (List.mem_of_getElem? (i := 13) rfl)), rfl⟩)) (by decide)
theorem zs_30 : Cond.selects "WindowMachine$Processor" (⟨"WindowMachine$Processor", "reckonInto", "(IIII)I"⟩) (⟨"WindowMachine$Processor", "reckonInto", "(IIII)I"⟩) ∈ zT := zT_in (List.mem_append_left _ (List.mem_map.mpr ⟨((⟨"WindowMachine$Processor", "reckonInto", "(IIII)I"⟩ : MethodName), 18), List.mem_append_right _ (List.mem_append_left _ (List.mem_of_getElem? (i := 14) rfl)), rfl⟩)) (by decide)
theorem zs_31 : Cond.selects "WindowMachine$Reckoner" (⟨"WindowMachine$Reckoner", "take", "(I)V"⟩) (⟨"WindowMachine$Reckoner", "take", "(I)V"⟩) ∈ zT := zT_in (List.mem_append_left _ (List.mem_map.mpr ⟨((⟨"WindowMachine$Reckoner", "take", "(I)V"⟩ : MethodName), 4), List.mem_append_right _ (List.mem_append_left _ (List.mem_of_getElem? (i := 15) rfl)), rfl⟩)) (by decide)
theorem zs_32 : Cond.selects "WindowMachine$Reckoner" (⟨"WindowMachine$Reckoner", "subtract", "(III)V"⟩) (⟨"WindowMachine$Reckoner", "subtract", "(III)V"⟩) ∈ zT := zT_in (List.mem_append_left _ (List.mem_map.mpr ⟨((⟨"WindowMachine$Reckoner", "subtract", "(III)V"⟩ : MethodName), 4), List.mem_append_right _ (List.mem_append_right _ (List.mem_append_left _ (List.mem_of_getElem? (i := 0) rfl))), rfl⟩)) (by decide)
theorem zs_33 : Cond.selects "WindowMachine$Reckoner" (⟨"WindowMachine$Reckoner", "takeProduct", "(J)V"⟩) (⟨"WindowMachine$Reckoner", "takeProduct", "(J)V"⟩) ∈ zT := zT_in (List.mem_append_left _ (List.mem_map.mpr ⟨((⟨"WindowMachine$Reckoner", "takeProduct", "(J)V"⟩ : MethodName), 4), List.mem_append_right _ (List.mem_append_right _ (List.mem_append_left _ (List.mem_of_getElem? (i := 1) rfl))), rfl⟩)) (by decide)
theorem zs_34 : Cond.selects "WindowMachine$Reckoner" (⟨"WindowMachine$Reckoner", "takeQuotient", "(JJJ)V"⟩) (⟨"WindowMachine$Reckoner", "takeQuotient", "(JJJ)V"⟩) ∈ zT := zT_in (List.mem_append_left _ (List.mem_map.mpr ⟨((⟨"WindowMachine$Reckoner", "takeQuotient", "(JJJ)V"⟩ : MethodName), 4), List.mem_append_right _ (List.mem_append_right _ (List.mem_append_left _ (List.mem_of_getElem? (i := 2) rfl))), rfl⟩)) (by decide)
theorem zs_35 : Cond.selects "WindowMachine$Processor" (⟨"WindowMachine$Processor", "multiplyStep", "(III)I"⟩) (⟨"WindowMachine$Processor", "multiplyStep", "(III)I"⟩) ∈ zT := zT_in (List.mem_append_left _ (List.mem_map.mpr ⟨((⟨"WindowMachine$Processor", "multiplyStep", "(III)I"⟩ : MethodName), 18), List.mem_append_right _ (List.mem_append_right _ (List.mem_append_left _ (List.mem_of_getElem? (i := 3) rfl))), rfl⟩)) (by decide)
theorem zs_36 : Cond.selects "WindowMachine$Processor" (⟨"WindowMachine$Processor", "readSpecial", "(II)I"⟩) (⟨"WindowMachine$Processor", "readSpecial", "(II)I"⟩) ∈ zT := zT_in (List.mem_append_left _ (List.mem_map.mpr ⟨((⟨"WindowMachine$Processor", "readSpecial", "(II)I"⟩ : MethodName), 18), List.mem_append_right _ (List.mem_append_right _ (List.mem_append_left _ (List.mem_of_getElem? (i := 4) rfl))), rfl⟩)) (by decide)
theorem zs_37 : Cond.selects "WindowMachine$Processor" (⟨"WindowMachine$Processor", "writeY", "(II)I"⟩) (⟨"WindowMachine$Processor", "writeY", "(II)I"⟩) ∈ zT := zT_in (List.mem_append_left _ (List.mem_map.mpr ⟨((⟨"WindowMachine$Processor", "writeY", "(II)I"⟩ : MethodName), 18), List.mem_append_right _ (List.mem_append_right _ (List.mem_append_left _ (List.mem_of_getElem? (i := 5) rfl))), rfl⟩)) (by decide)
theorem zs_38 : Cond.selects "WindowMachine$Processor" (⟨"WindowMachine$Processor", "writeSpecial", "(II)I"⟩) (⟨"WindowMachine$Processor", "writeSpecial", "(II)I"⟩) ∈ zT := zT_in (List.mem_append_left _ (List.mem_map.mpr ⟨((⟨"WindowMachine$Processor", "writeSpecial", "(II)I"⟩ : MethodName), 18), List.mem_append_right _ (List.mem_append_right _ (List.mem_append_left _ (List.mem_of_getElem? (i := 6) rfl))), rfl⟩)) (by decide)
theorem zs_39 : Cond.selects "WindowMachine$Processor" (⟨"WindowMachine$Processor", "writeStatus", "(I)I"⟩) (⟨"WindowMachine$Processor", "writeStatus", "(I)I"⟩) ∈ zT := zT_in (List.mem_append_left _ (List.mem_map.mpr ⟨((⟨"WindowMachine$Processor", "writeStatus", "(I)I"⟩ : MethodName), 18), List.mem_append_right _ (List.mem_append_right _ (List.mem_append_left _ (List.mem_of_getElem? (i := 7) rfl))), rfl⟩)) (by decide)
theorem zs_40 : Cond.selects "WindowMachine$Processor" (⟨"WindowMachine$Processor", "jump", "(II)I"⟩) (⟨"WindowMachine$Processor", "jump", "(II)I"⟩) ∈ zT := zT_in (List.mem_append_left _ (List.mem_map.mpr ⟨((⟨"WindowMachine$Processor", "jump", "(II)I"⟩ : MethodName), 18), List.mem_append_right _ (List.mem_append_right _ (List.mem_append_left _ (List.mem_of_getElem? (i := 8) rfl))), rfl⟩)) (by decide)
theorem zs_41 : Cond.selects "WindowMachine$Processor" (⟨"WindowMachine$Processor", "returnFromTrap", "(I)I"⟩) (⟨"WindowMachine$Processor", "returnFromTrap", "(I)I"⟩) ∈ zT := zT_in (List.mem_append_left _ (List.mem_map.mpr ⟨((⟨"WindowMachine$Processor", "returnFromTrap", "(I)I"⟩ : MethodName), 18), List.mem_append_right _ (List.mem_append_right _ (List.mem_append_left _ (List.mem_of_getElem? (i := 9) rfl))), rfl⟩)) (by decide)
theorem zs_42 : Cond.selects "WindowMachine$Processor" (⟨"WindowMachine$Processor", "windowAbove", "()I"⟩) (⟨"WindowMachine$Processor", "windowAbove", "()I"⟩) ∈ zT := zT_in (List.mem_append_left _ (List.mem_map.mpr ⟨((⟨"WindowMachine$Processor", "windowAbove", "()I"⟩ : MethodName), 18), List.mem_append_right _ (List.mem_append_right _ (List.mem_append_left _ (List.mem_of_getElem? (i := 10) rfl))), rfl⟩)) (by decide)
theorem zs_43 : Cond.selects "WindowMachine$Processor" (⟨"WindowMachine$Processor", "isInvalid", "(I)Z"⟩) (⟨"WindowMachine$Processor", "isInvalid", "(I)Z"⟩) ∈ zT := zT_in (List.mem_append_left _ (List.mem_map.mpr ⟨((⟨"WindowMachine$Processor", "isInvalid", "(I)Z"⟩ : MethodName), 18), List.mem_append_right _ (List.mem_append_right _ (List.mem_append_left _ (List.mem_of_getElem? (i := 11) rfl))), rfl⟩)) (by decide)
theorem zs_44 : Cond.selects "WindowMachine$Processor" (⟨"WindowMachine$Processor", "windowBelow", "()I"⟩) (⟨"WindowMachine$Processor", "windowBelow", "()I"⟩) ∈ zT := zT_in (List.mem_append_left _ (List.mem_map.mpr ⟨((⟨"WindowMachine$Processor", "windowBelow", "()I"⟩ : MethodName), 18), List.mem_append_right _ (List.mem_append_right _ (List.mem_append_left _ (List.mem_of_getElem? (i := 12) rfl))), rfl⟩)) (by decide)
theorem zs_45 : Cond.selects "WindowMachine$Processor" (⟨"WindowMachine$Processor", "moveWindow", "(IIII)I"⟩) (⟨"WindowMachine$Processor", "moveWindow", "(IIII)I"⟩) ∈ zT := zT_in (List.mem_append_left _ (List.mem_map.mpr ⟨((⟨"WindowMachine$Processor", "moveWindow", "(IIII)I"⟩ : MethodName), 18), List.mem_append_right _ (List.mem_append_right _ (List.mem_append_left _ (List.mem_of_getElem? (i := 13) rfl))), rfl⟩)) (by decide)
